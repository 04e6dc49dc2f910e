section
set_option maxHeartbeats 4000000 in
set_option maxRecDepth 100000 in
/-- THE LOOP of the law -/
theorem law_loop {p : Program} {e : Env} {s : State} {m : MethodId} {below : List Frame} {meth : Method} {c : Code} (l : Launch) {b LN : Nat} {xs : Nat → Int32} (hx : p.tables.exec = Jvm.exec) (hb : c.code = code) (hr : meth.sig.returnType = ret) (hlocks : meth.locks = false) (hml : c.maxLocals = 4) (hown : s.vm.findClass "SmallCourtLaw" = some m.cls) (hts : ∀ w ∈ hx_all, w.before #[Value.ref b] s = true) (hX : va_X b LN xs s s.heap) (hbl : b < s.heap.size) (hbA : ¬ s.heap.size ≤ b) (hLN : LN ≤ 3584) (dC : Nat → ClassId) (dI : Nat → Nat → Nat) (dA : Nat → ClassId) (b0 : hx_z) (ax am : Nat) (C0 S0 : Nat) (hC0 : C0 + 1536 ≤ 600000) (hS0 : S0 + 91648 ≤ 7302250) (hZ : hx_Xt (fun q : Nat => s.heap.size ≤ q) b0 s) : ∀ (n : Nat) (T1 : Int) (i : Int32) (CC SS : Nat) (L1 : List Nat) (hl1 : hx_h) (H : Heap) (locs : List Loc) (ls : Array Slot), 0 ≤ T1 → i.toInt = 7 * T1 → i.toInt ≤ LN → (CC : Int) ≤ C0 + 3 * T1 → (SS : Int) ≤ S0 + 179 * T1 → (LN : Int) < 7 * T1 + n → hx_W T_tb (P_ty dA) (dC, dI) vwCl (fun q : Nat => s.heap.size ≤ q) s.heap L1 hl1 s H locs → hx_IV T1 ax am L1 hl1 → lv_has ls 4 [(3, .int i), (2, .ref am), (1, .ref ax), (0, .ref b)] → W p l e room_1 s m #[Value.ref b] below meth c H locs CC SS (lw_Z below #[Value.ref b] s) (F0 m 18 ls []) := by
  intro n
  induction n with
  | zero => intro T1 i CC SS L1 hl1 H locs ls hT0 hi hiL hCC hSS hn; exfalso; omega
  | succ n ih =>
    intro T1 i CC SS L1 hl1 H locs ls hT0 hi hiL hCC hSS hn hW hI hl
    refine lv_iload_n hx hb dL_law_18 rfl (lv_at hl 0 rfl) ?_
    refine lv_aload_n hx hb dL_law_19 rfl (lv_at hl 3 rfl) ?_
    refine va_slen hx hb hX hbl hbA hW.2.2.2.1 dL_law_20 ?_
    refine lv_topi (fun x ex => ?_)
    have zx : x.toInt = (LN : Int) := ?o0
    case o0 =>
      rw [ex]
      refine nI_toInt ?o1
      case o1 => omega
    refine lv_bipush (v := 7) hx hb dL_law_21 ?o2 ?_
    case o2 => decide
    refine lv_isub hx hb dL_law_23 ?_
    refine lv_topi (fun y ey => ?_)
    have zc_7 : (7 : Int32).toInt = 7 := ?o3
    case o3 => decide
    have zy : y.toInt = LN - 7 := ?o4
    case o4 =>
      rw [ey]
      refine i32_sub zx ?o5 ?o6 ?o7
      case o5 => decide
      case o6 => omega
      case o7 => omega
    refine hb_icmp_gt (zx := i.toInt) (zy := y.toInt) (tgt := 1385) hx hb rfl rfl dL_law_24 ?o8 (fun c1 => ?_) (fun c1 => ?_)
    case o8 => decide
    · refine lv_iconst (v := 1) hx hb dL_law_1385 ?o9 ?_
      case o9 => decide
      refine va_forget (fun q hq => hW.2.2.2.1.2.2 q hq) ?_
      refine W.widen (k := 600000) (n := 7302250) ?o10 ?o11 ?_
      case o10 => omega
      case o11 => omega
      exact lw_ret hx hb hr hlocks dL_law_1386
    · have hi7 : i.toInt + 7 ≤ LN := ?o12
      case o12 => omega
      refine lv_aload_n hx hb dL_law_27 rfl (lv_at hl 3 rfl) ?_
      refine lv_iload_n hx hb dL_law_28 rfl (lv_at hl 0 rfl) ?_
      refine va_sld hx hb hX hbl hbA hW.2.2.2.1 (vp_in_iff.mpr ⟨?o13, ?o14⟩) dL_law_29 ?_
      case o13 => omega
      case o14 => omega
      refine lv_bipush (v := 31) hx hb dL_law_30 ?o15 ?_
      case o15 => decide
      refine lv_iand hx hb dL_law_32 ?_
      refine lv_topi (fun k ek => ?_)
      have kk : ∀ (CC2 SS2 : Nat) (L2 : List Nat) (h2 : hx_h) (H2 : Heap) (locs2 : List Loc) (ls2 : Array Slot), CC2 ≤ CC + 3 → SS2 ≤ SS + 179 → hx_W T_tb (P_ty dA) (dC, dI) vwCl (fun q : Nat => s.heap.size ≤ q) s.heap L2 h2 s H2 locs2 → hx_IV (T1 + 1) ax am L2 h2 → lv_has ls2 4 [(3, .int i), (2, .ref am), (1, .ref ax), (0, .ref b)] → W p l e room_1 s m #[Value.ref b] below meth c H2 locs2 CC2 SS2 (lw_Z below #[Value.ref b] s) (F0 m 1379 ls2 []) := by
        intro CC2 SS2 L2 h2 H2 locs2 ls2 hc2 hs2 hW hI hl
        obtain ⟨i7, ei7⟩ : ∃ y : Int32, y = i + Int32.ofInt 7 := ⟨_, rfl⟩
        have zi7 : i7.toInt = i.toInt + 7 := ?o16
        case o16 =>
          rw [ei7]
          refine i32_add rfl ?o17 ?o18 ?o19
          case o17 => decide
          case o18 => omega
          case o19 => omega
        refine lv_iinc (v := i7) (lv' := [(3, .int i7), (2, .ref am), (1, .ref ax), (0, .ref b)]) hx hb dL_law_1379 hl (k := 0) rfl ei7.symm ?o20 rfl (fun ls hl => ?_)
        case o20 => decide
        refine lv_goto (tgt := 18) hx hb dL_law_1382 ?o21 ?_
        case o21 => decide
        refine ih (T1 + 1) i7 CC2 SS2 L2 h2 H2 locs2 ls ?o22 ?o23 ?o24 ?o25 ?o26 ?o27 hW hI hl
        case o22 => omega
        case o23 => omega
        case o24 => omega
        case o25 => omega
        case o26 => omega
        case o27 => omega
      rcases (show (k.toInt < 0 ∨ 30 < k.toInt) ∨ k.toInt = 0 ∨ k.toInt = 1 ∨ k.toInt = 2 ∨ k.toInt = 3 ∨ k.toInt = 4 ∨ k.toInt = 5 ∨ k.toInt = 6 ∨ k.toInt = 7 ∨ k.toInt = 8 ∨ k.toInt = 9 ∨ k.toInt = 10 ∨ k.toInt = 11 ∨ k.toInt = 12 ∨ k.toInt = 13 ∨ k.toInt = 14 ∨ k.toInt = 15 ∨ k.toInt = 16 ∨ k.toInt = 17 ∨ k.toInt = 18 ∨ k.toInt = 19 ∨ k.toInt = 20 ∨ k.toInt = 21 ∨ k.toInt = 22 ∨ k.toInt = 23 ∨ k.toInt = 24 ∨ k.toInt = 25 ∨ k.toInt = 26 ∨ k.toInt = 27 ∨ k.toInt = 28 ∨ k.toInt = 29 ∨ k.toInt = 30 from by omega) with ck | ck | ck | ck | ck | ck | ck | ck | ck | ck | ck | ck | ck | ck | ck | ck | ck | ck | ck | ck | ck | ck | ck | ck | ck | ck | ck | ck | ck | ck | ck | ck
      · refine lv_tableOut (tgt := 1379) hx hb dL_law_33 ck ?o28 ?_
        case o28 => decide
        obtain ⟨i1, i2, i3, i4, i5, ⟨i6, i7, i8, i9, i10, i11, i12⟩⟩ := hI
        refine kk CC SS L1 hl1 H locs ls ?o29 ?o30 hW ⟨i1, i2, i3, i4, i5, i6, i7, i8, i9, i10, fun q hq => hx_TR_le (i11 q hq) ?o31, i12⟩ hl
        case o29 => omega
        case o30 => omega
        case o31 => omega
      · obtain rfl : k = (0 : Int32) := Int32.toInt_inj.mp (ck.trans (by decide))
        refine lv_tableIn (off := 139) (tgt := 172) hx hb dL_law_33 ?o32 ?o33 rfl ?o34 ?_
        case o32 => decide
        case o33 => decide
        case o34 => decide
        refine law_case_0 l hx hb hr hlocks hml hown hts hX hbl hbA hLN dC dI dA b0 ax am T1 hT0 ?o35 i ?o36 hi7 CC SS ?o37 ?o38 L1 hl1 H locs ls hW hZ hI hl (fun L2 h2 H2 locs2 ls2 => kk _ _ L2 h2 H2 locs2 ls2 (Nat.le_refl _) (Nat.le_refl _))
        case o35 => omega
        case o36 => omega
        case o37 => omega
        case o38 => omega
      · obtain rfl : k = (1 : Int32) := Int32.toInt_inj.mp (ck.trans (by decide))
        refine lv_tableIn (off := 162) (tgt := 195) hx hb dL_law_33 ?o39 ?o40 rfl ?o41 ?_
        case o39 => decide
        case o40 => decide
        case o41 => decide
        refine law_case_1 l hx hb hr hlocks hml hown hts hX hbl hbA hLN dC dI dA b0 ax am T1 hT0 ?o42 i ?o43 hi7 CC SS ?o44 ?o45 L1 hl1 H locs ls hW hZ hI hl (fun L2 h2 H2 locs2 ls2 => kk _ _ L2 h2 H2 locs2 ls2 (Nat.le_refl _) (Nat.le_refl _))
        case o42 => omega
        case o43 => omega
        case o44 => omega
        case o45 => omega
      · obtain rfl : k = (2 : Int32) := Int32.toInt_inj.mp (ck.trans (by decide))
        refine lv_tableIn (off := 225) (tgt := 258) hx hb dL_law_33 ?o46 ?o47 rfl ?o48 ?_
        case o46 => decide
        case o47 => decide
        case o48 => decide
        refine law_case_2 l hx hb hr hlocks hml hown hts hX hbl hbA hLN dC dI dA b0 ax am T1 hT0 ?o49 i ?o50 hi7 CC SS ?o51 ?o52 L1 hl1 H locs ls hW hZ hI hl (fun L2 h2 H2 locs2 ls2 => kk _ _ L2 h2 H2 locs2 ls2 (Nat.le_refl _) (Nat.le_refl _))
        case o49 => omega
        case o50 => omega
        case o51 => omega
        case o52 => omega
      · obtain rfl : k = (3 : Int32) := Int32.toInt_inj.mp (ck.trans (by decide))
        refine lv_tableIn (off := 248) (tgt := 281) hx hb dL_law_33 ?o53 ?o54 rfl ?o55 ?_
        case o53 => decide
        case o54 => decide
        case o55 => decide
        refine law_case_3 l hx hb hr hlocks hml hown hts hX hbl hbA hLN dC dI dA b0 ax am T1 hT0 ?o56 i ?o57 hi7 CC SS ?o58 ?o59 L1 hl1 H locs ls hW hZ hI hl (fun L2 h2 H2 locs2 ls2 => kk _ _ L2 h2 H2 locs2 ls2 (Nat.le_refl _) (Nat.le_refl _))
        case o56 => omega
        case o57 => omega
        case o58 => omega
        case o59 => omega
      · obtain rfl : k = (4 : Int32) := Int32.toInt_inj.mp (ck.trans (by decide))
        refine lv_tableIn (off := 271) (tgt := 304) hx hb dL_law_33 ?o60 ?o61 rfl ?o62 ?_
        case o60 => decide
        case o61 => decide
        case o62 => decide
        refine law_case_4 l hx hb hr hlocks hml hown hts hX hbl hbA hLN dC dI dA b0 ax am T1 hT0 ?o63 i ?o64 hi7 CC SS ?o65 ?o66 L1 hl1 H locs ls hW hZ hI hl (fun L2 h2 H2 locs2 ls2 => kk _ _ L2 h2 H2 locs2 ls2 (Nat.le_refl _) (Nat.le_refl _))
        case o63 => omega
        case o64 => omega
        case o65 => omega
        case o66 => omega
      · obtain rfl : k = (5 : Int32) := Int32.toInt_inj.mp (ck.trans (by decide))
        refine lv_tableIn (off := 304) (tgt := 337) hx hb dL_law_33 ?o67 ?o68 rfl ?o69 ?_
        case o67 => decide
        case o68 => decide
        case o69 => decide
        refine law_case_5 l hx hb hr hlocks hml hown hts hX hbl hbA hLN dC dI dA b0 ax am T1 hT0 ?o70 i ?o71 hi7 CC SS ?o72 ?o73 L1 hl1 H locs ls hW hZ hI hl (fun L2 h2 H2 locs2 ls2 => kk _ _ L2 h2 H2 locs2 ls2 (Nat.le_refl _) (Nat.le_refl _))
        case o70 => omega
        case o71 => omega
        case o72 => omega
        case o73 => omega
      · obtain rfl : k = (6 : Int32) := Int32.toInt_inj.mp (ck.trans (by decide))
        refine lv_tableIn (off := 379) (tgt := 412) hx hb dL_law_33 ?o74 ?o75 rfl ?o76 ?_
        case o74 => decide
        case o75 => decide
        case o76 => decide
        refine law_case_6 l hx hb hr hlocks hml hown hts hX hbl hbA hLN dC dI dA b0 ax am T1 hT0 ?o77 i ?o78 hi7 CC SS ?o79 ?o80 L1 hl1 H locs ls hW hZ hI hl (fun L2 h2 H2 locs2 ls2 => kk _ _ L2 h2 H2 locs2 ls2 (Nat.le_refl _) (Nat.le_refl _))
        case o77 => omega
        case o78 => omega
        case o79 => omega
        case o80 => omega
      · obtain rfl : k = (7 : Int32) := Int32.toInt_inj.mp (ck.trans (by decide))
        refine lv_tableIn (off := 442) (tgt := 475) hx hb dL_law_33 ?o81 ?o82 rfl ?o83 ?_
        case o81 => decide
        case o82 => decide
        case o83 => decide
        refine law_case_7 l hx hb hr hlocks hml hown hts hX hbl hbA hLN dC dI dA b0 ax am T1 hT0 ?o84 i ?o85 hi7 CC SS ?o86 ?o87 L1 hl1 H locs ls hW hZ hI hl (fun L2 h2 H2 locs2 ls2 => kk _ _ L2 h2 H2 locs2 ls2 (Nat.le_refl _) (Nat.le_refl _))
        case o84 => omega
        case o85 => omega
        case o86 => omega
        case o87 => omega
      · obtain rfl : k = (8 : Int32) := Int32.toInt_inj.mp (ck.trans (by decide))
        refine lv_tableIn (off := 465) (tgt := 498) hx hb dL_law_33 ?o88 ?o89 rfl ?o90 ?_
        case o88 => decide
        case o89 => decide
        case o90 => decide
        refine law_case_8 l hx hb hr hlocks hml hown hts hX hbl hbA hLN dC dI dA b0 ax am T1 hT0 ?o91 i ?o92 hi7 CC SS ?o93 ?o94 L1 hl1 H locs ls hW hZ hI hl (fun L2 h2 H2 locs2 ls2 => kk _ _ L2 h2 H2 locs2 ls2 (Nat.le_refl _) (Nat.le_refl _))
        case o91 => omega
        case o92 => omega
        case o93 => omega
        case o94 => omega
      · obtain rfl : k = (9 : Int32) := Int32.toInt_inj.mp (ck.trans (by decide))
        refine lv_tableIn (off := 514) (tgt := 547) hx hb dL_law_33 ?o95 ?o96 rfl ?o97 ?_
        case o95 => decide
        case o96 => decide
        case o97 => decide
        refine law_case_9 l hx hb hr hlocks hml hown hts hX hbl hbA hLN dC dI dA b0 ax am T1 hT0 ?o98 i ?o99 hi7 CC SS ?o100 ?o101 L1 hl1 H locs ls hW hZ hI hl (fun L2 h2 H2 locs2 ls2 => kk _ _ L2 h2 H2 locs2 ls2 (Nat.le_refl _) (Nat.le_refl _))
        case o98 => omega
        case o99 => omega
        case o100 => omega
        case o101 => omega
      · obtain rfl : k = (10 : Int32) := Int32.toInt_inj.mp (ck.trans (by decide))
        refine lv_tableIn (off := 577) (tgt := 610) hx hb dL_law_33 ?o102 ?o103 rfl ?o104 ?_
        case o102 => decide
        case o103 => decide
        case o104 => decide
        refine law_case_10 l hx hb hr hlocks hml hown hts hX hbl hbA hLN dC dI dA b0 ax am T1 hT0 ?o105 i ?o106 hi7 CC SS ?o107 ?o108 L1 hl1 H locs ls hW hZ hI hl (fun L2 h2 H2 locs2 ls2 => kk _ _ L2 h2 H2 locs2 ls2 (Nat.le_refl _) (Nat.le_refl _))
        case o105 => omega
        case o106 => omega
        case o107 => omega
        case o108 => omega
      · obtain rfl : k = (11 : Int32) := Int32.toInt_inj.mp (ck.trans (by decide))
        refine lv_tableIn (off := 630) (tgt := 663) hx hb dL_law_33 ?o109 ?o110 rfl ?o111 ?_
        case o109 => decide
        case o110 => decide
        case o111 => decide
        refine law_case_11 l hx hb hr hlocks hml hown hts hX hbl hbA hLN dC dI dA b0 ax am T1 hT0 ?o112 i ?o113 hi7 CC SS ?o114 ?o115 L1 hl1 H locs ls hW hZ hI hl (fun L2 h2 H2 locs2 ls2 => kk _ _ L2 h2 H2 locs2 ls2 (Nat.le_refl _) (Nat.le_refl _))
        case o112 => omega
        case o113 => omega
        case o114 => omega
        case o115 => omega
      · obtain rfl : k = (12 : Int32) := Int32.toInt_inj.mp (ck.trans (by decide))
        refine lv_tableIn (off := 721) (tgt := 754) hx hb dL_law_33 ?o116 ?o117 rfl ?o118 ?_
        case o116 => decide
        case o117 => decide
        case o118 => decide
        refine law_case_12 l hx hb hr hlocks hml hown hts hX hbl hbA hLN dC dI dA b0 ax am T1 hT0 ?o119 i ?o120 hi7 CC SS ?o121 ?o122 L1 hl1 H locs ls hW hZ hI hl (fun L2 h2 H2 locs2 ls2 => kk _ _ L2 h2 H2 locs2 ls2 (Nat.le_refl _) (Nat.le_refl _))
        case o119 => omega
        case o120 => omega
        case o121 => omega
        case o122 => omega
      · obtain rfl : k = (13 : Int32) := Int32.toInt_inj.mp (ck.trans (by decide))
        refine lv_tableIn (off := 770) (tgt := 803) hx hb dL_law_33 ?o123 ?o124 rfl ?o125 ?_
        case o123 => decide
        case o124 => decide
        case o125 => decide
        refine law_case_13 l hx hb hr hlocks hml hown hts hX hbl hbA hLN dC dI dA b0 ax am T1 hT0 ?o126 i ?o127 hi7 CC SS ?o128 ?o129 L1 hl1 H locs ls hW hZ hI hl (fun L2 h2 H2 locs2 ls2 => kk _ _ L2 h2 H2 locs2 ls2 (Nat.le_refl _) (Nat.le_refl _))
        case o126 => omega
        case o127 => omega
        case o128 => omega
        case o129 => omega
      · obtain rfl : k = (14 : Int32) := Int32.toInt_inj.mp (ck.trans (by decide))
        refine lv_tableIn (off := 855) (tgt := 888) hx hb dL_law_33 ?o130 ?o131 rfl ?o132 ?_
        case o130 => decide
        case o131 => decide
        case o132 => decide
        refine law_case_14 l hx hb hr hlocks hml hown hts hX hbl hbA hLN dC dI dA b0 ax am T1 hT0 ?o133 i ?o134 hi7 CC SS ?o135 ?o136 L1 hl1 H locs ls hW hZ hI hl (fun L2 h2 H2 locs2 ls2 => kk _ _ L2 h2 H2 locs2 ls2 (Nat.le_refl _) (Nat.le_refl _))
        case o133 => omega
        case o134 => omega
        case o135 => omega
        case o136 => omega
      · obtain rfl : k = (15 : Int32) := Int32.toInt_inj.mp (ck.trans (by decide))
        refine lv_tableIn (off := 888) (tgt := 921) hx hb dL_law_33 ?o137 ?o138 rfl ?o139 ?_
        case o137 => decide
        case o138 => decide
        case o139 => decide
        refine law_case_15 l hx hb hr hlocks hml hown hts hX hbl hbA hLN dC dI dA b0 ax am T1 hT0 ?o140 i ?o141 hi7 CC SS ?o142 ?o143 L1 hl1 H locs ls hW hZ hI hl (fun L2 h2 H2 locs2 ls2 => kk _ _ L2 h2 H2 locs2 ls2 (Nat.le_refl _) (Nat.le_refl _))
        case o140 => omega
        case o141 => omega
        case o142 => omega
        case o143 => omega
      · obtain rfl : k = (16 : Int32) := Int32.toInt_inj.mp (ck.trans (by decide))
        refine lv_tableIn (off := 931) (tgt := 964) hx hb dL_law_33 ?o144 ?o145 rfl ?o146 ?_
        case o144 => decide
        case o145 => decide
        case o146 => decide
        refine law_case_16 l hx hb hr hlocks hml hown hts hX hbl hbA hLN dC dI dA b0 ax am T1 hT0 ?o147 i ?o148 hi7 CC SS ?o149 ?o150 L1 hl1 H locs ls hW hZ hI hl (fun L2 h2 H2 locs2 ls2 => kk _ _ L2 h2 H2 locs2 ls2 (Nat.le_refl _) (Nat.le_refl _))
        case o147 => omega
        case o148 => omega
        case o149 => omega
        case o150 => omega
      · obtain rfl : k = (17 : Int32) := Int32.toInt_inj.mp (ck.trans (by decide))
        refine lv_tableIn (off := 954) (tgt := 987) hx hb dL_law_33 ?o151 ?o152 rfl ?o153 ?_
        case o151 => decide
        case o152 => decide
        case o153 => decide
        refine law_case_17 l hx hb hr hlocks hml hown hts hX hbl hbA hLN dC dI dA b0 ax am T1 hT0 ?o154 i ?o155 hi7 CC SS ?o156 ?o157 L1 hl1 H locs ls hW hZ hI hl (fun L2 h2 H2 locs2 ls2 => kk _ _ L2 h2 H2 locs2 ls2 (Nat.le_refl _) (Nat.le_refl _))
        case o154 => omega
        case o155 => omega
        case o156 => omega
        case o157 => omega
      · obtain rfl : k = (18 : Int32) := Int32.toInt_inj.mp (ck.trans (by decide))
        refine lv_tableIn (off := 987) (tgt := 1020) hx hb dL_law_33 ?o158 ?o159 rfl ?o160 ?_
        case o158 => decide
        case o159 => decide
        case o160 => decide
        refine law_case_18 l hx hb hr hlocks hml hown hts hX hbl hbA hLN dC dI dA b0 ax am T1 hT0 ?o161 i ?o162 hi7 CC SS ?o163 ?o164 L1 hl1 H locs ls hW hZ hI hl (fun L2 h2 H2 locs2 ls2 => kk _ _ L2 h2 H2 locs2 ls2 (Nat.le_refl _) (Nat.le_refl _))
        case o161 => omega
        case o162 => omega
        case o163 => omega
        case o164 => omega
      · obtain rfl : k = (19 : Int32) := Int32.toInt_inj.mp (ck.trans (by decide))
        refine lv_tableIn (off := 1010) (tgt := 1043) hx hb dL_law_33 ?o165 ?o166 rfl ?o167 ?_
        case o165 => decide
        case o166 => decide
        case o167 => decide
        refine law_case_19 l hx hb hr hlocks hml hown hts hX hbl hbA hLN dC dI dA b0 ax am T1 hT0 ?o168 i ?o169 hi7 CC SS ?o170 ?o171 L1 hl1 H locs ls hW hZ hI hl (fun L2 h2 H2 locs2 ls2 => kk _ _ L2 h2 H2 locs2 ls2 (Nat.le_refl _) (Nat.le_refl _))
        case o168 => omega
        case o169 => omega
        case o170 => omega
        case o171 => omega
      · obtain rfl : k = (20 : Int32) := Int32.toInt_inj.mp (ck.trans (by decide))
        refine lv_tableIn (off := 1043) (tgt := 1076) hx hb dL_law_33 ?o172 ?o173 rfl ?o174 ?_
        case o172 => decide
        case o173 => decide
        case o174 => decide
        refine law_case_20 l hx hb hr hlocks hml hown hts hX hbl hbA hLN dC dI dA b0 ax am T1 hT0 ?o175 i ?o176 hi7 CC SS ?o177 ?o178 L1 hl1 H locs ls hW hZ hI hl (fun L2 h2 H2 locs2 ls2 => kk _ _ L2 h2 H2 locs2 ls2 (Nat.le_refl _) (Nat.le_refl _))
        case o175 => omega
        case o176 => omega
        case o177 => omega
        case o178 => omega
      · obtain rfl : k = (21 : Int32) := Int32.toInt_inj.mp (ck.trans (by decide))
        refine lv_tableIn (off := 1096) (tgt := 1129) hx hb dL_law_33 ?o179 ?o180 rfl ?o181 ?_
        case o179 => decide
        case o180 => decide
        case o181 => decide
        refine law_case_21 l hx hb hr hlocks hml hown hts hX hbl hbA hLN dC dI dA b0 ax am T1 hT0 ?o182 i ?o183 hi7 CC SS ?o184 ?o185 L1 hl1 H locs ls hW hZ hI hl (fun L2 h2 H2 locs2 ls2 => kk _ _ L2 h2 H2 locs2 ls2 (Nat.le_refl _) (Nat.le_refl _))
        case o182 => omega
        case o183 => omega
        case o184 => omega
        case o185 => omega
      · obtain rfl : k = (22 : Int32) := Int32.toInt_inj.mp (ck.trans (by decide))
        refine lv_tableIn (off := 1129) (tgt := 1162) hx hb dL_law_33 ?o186 ?o187 rfl ?o188 ?_
        case o186 => decide
        case o187 => decide
        case o188 => decide
        refine law_case_22 l hx hb hr hlocks hml hown hts hX hbl hbA hLN dC dI dA b0 ax am T1 hT0 ?o189 i ?o190 hi7 CC SS ?o191 ?o192 L1 hl1 H locs ls hW hZ hI hl (fun L2 h2 H2 locs2 ls2 => kk _ _ L2 h2 H2 locs2 ls2 (Nat.le_refl _) (Nat.le_refl _))
        case o189 => omega
        case o190 => omega
        case o191 => omega
        case o192 => omega
      · obtain rfl : k = (23 : Int32) := Int32.toInt_inj.mp (ck.trans (by decide))
        refine lv_tableIn (off := 1162) (tgt := 1195) hx hb dL_law_33 ?o193 ?o194 rfl ?o195 ?_
        case o193 => decide
        case o194 => decide
        case o195 => decide
        refine law_case_23 l hx hb hr hlocks hml hown hts hX hbl hbA hLN dC dI dA b0 ax am T1 hT0 ?o196 i ?o197 hi7 CC SS ?o198 ?o199 L1 hl1 H locs ls hW hZ hI hl (fun L2 h2 H2 locs2 ls2 => kk _ _ L2 h2 H2 locs2 ls2 (Nat.le_refl _) (Nat.le_refl _))
        case o196 => omega
        case o197 => omega
        case o198 => omega
        case o199 => omega
      · obtain rfl : k = (24 : Int32) := Int32.toInt_inj.mp (ck.trans (by decide))
        refine lv_tableIn (off := 1175) (tgt := 1208) hx hb dL_law_33 ?o200 ?o201 rfl ?o202 ?_
        case o200 => decide
        case o201 => decide
        case o202 => decide
        refine law_case_24 l hx hb hr hlocks hml hown hts hX hbl hbA hLN dC dI dA b0 ax am T1 hT0 ?o203 i ?o204 hi7 CC SS ?o205 ?o206 L1 hl1 H locs ls hW hZ hI hl (fun L2 h2 H2 locs2 ls2 => kk _ _ L2 h2 H2 locs2 ls2 (Nat.le_refl _) (Nat.le_refl _))
        case o203 => omega
        case o204 => omega
        case o205 => omega
        case o206 => omega
      · obtain rfl : k = (25 : Int32) := Int32.toInt_inj.mp (ck.trans (by decide))
        refine lv_tableIn (off := 1198) (tgt := 1231) hx hb dL_law_33 ?o207 ?o208 rfl ?o209 ?_
        case o207 => decide
        case o208 => decide
        case o209 => decide
        refine law_case_25 l hx hb hr hlocks hml hown hts hX hbl hbA hLN dC dI dA b0 ax am T1 hT0 ?o210 i ?o211 hi7 CC SS ?o212 ?o213 L1 hl1 H locs ls hW hZ hI hl (fun L2 h2 H2 locs2 ls2 => kk _ _ L2 h2 H2 locs2 ls2 (Nat.le_refl _) (Nat.le_refl _))
        case o210 => omega
        case o211 => omega
        case o212 => omega
        case o213 => omega
      · obtain rfl : k = (26 : Int32) := Int32.toInt_inj.mp (ck.trans (by decide))
        refine lv_tableIn (off := 1221) (tgt := 1254) hx hb dL_law_33 ?o214 ?o215 rfl ?o216 ?_
        case o214 => decide
        case o215 => decide
        case o216 => decide
        refine law_case_26 l hx hb hr hlocks hml hown hts hX hbl hbA hLN dC dI dA b0 ax am T1 hT0 ?o217 i ?o218 hi7 CC SS ?o219 ?o220 L1 hl1 H locs ls hW hZ hI hl (fun L2 h2 H2 locs2 ls2 => kk _ _ L2 h2 H2 locs2 ls2 (Nat.le_refl _) (Nat.le_refl _))
        case o217 => omega
        case o218 => omega
        case o219 => omega
        case o220 => omega
      · obtain rfl : k = (27 : Int32) := Int32.toInt_inj.mp (ck.trans (by decide))
        refine lv_tableIn (off := 1234) (tgt := 1267) hx hb dL_law_33 ?o221 ?o222 rfl ?o223 ?_
        case o221 => decide
        case o222 => decide
        case o223 => decide
        refine law_case_27 l hx hb hr hlocks hml hown hts hX hbl hbA hLN dC dI dA b0 ax am T1 hT0 ?o224 i ?o225 hi7 CC SS ?o226 ?o227 L1 hl1 H locs ls hW hZ hI hl (fun L2 h2 H2 locs2 ls2 => kk _ _ L2 h2 H2 locs2 ls2 (Nat.le_refl _) (Nat.le_refl _))
        case o224 => omega
        case o225 => omega
        case o226 => omega
        case o227 => omega
      · obtain rfl : k = (28 : Int32) := Int32.toInt_inj.mp (ck.trans (by decide))
        refine lv_tableIn (off := 1257) (tgt := 1290) hx hb dL_law_33 ?o228 ?o229 rfl ?o230 ?_
        case o228 => decide
        case o229 => decide
        case o230 => decide
        refine law_case_28 l hx hb hr hlocks hml hown hts hX hbl hbA hLN dC dI dA b0 ax am T1 hT0 ?o231 i ?o232 hi7 CC SS ?o233 ?o234 L1 hl1 H locs ls hW hZ hI hl (fun L2 h2 H2 locs2 ls2 => kk _ _ L2 h2 H2 locs2 ls2 (Nat.le_refl _) (Nat.le_refl _))
        case o231 => omega
        case o232 => omega
        case o233 => omega
        case o234 => omega
      · obtain rfl : k = (29 : Int32) := Int32.toInt_inj.mp (ck.trans (by decide))
        refine lv_tableIn (off := 1290) (tgt := 1323) hx hb dL_law_33 ?o235 ?o236 rfl ?o237 ?_
        case o235 => decide
        case o236 => decide
        case o237 => decide
        refine law_case_29 l hx hb hr hlocks hml hown hts hX hbl hbA hLN dC dI dA b0 ax am T1 hT0 ?o238 i ?o239 hi7 CC SS ?o240 ?o241 L1 hl1 H locs ls hW hZ hI hl (fun L2 h2 H2 locs2 ls2 => kk _ _ L2 h2 H2 locs2 ls2 (Nat.le_refl _) (Nat.le_refl _))
        case o238 => omega
        case o239 => omega
        case o240 => omega
        case o241 => omega
      · obtain rfl : k = (30 : Int32) := Int32.toInt_inj.mp (ck.trans (by decide))
        refine lv_tableIn (off := 1323) (tgt := 1356) hx hb dL_law_33 ?o242 ?o243 rfl ?o244 ?_
        case o242 => decide
        case o243 => decide
        case o244 => decide
        refine law_case_30 l hx hb hr hlocks hml hown hts hX hbl hbA hLN dC dI dA b0 ax am T1 hT0 ?o245 i ?o246 hi7 CC SS ?o247 ?o248 L1 hl1 H locs ls hW hZ hI hl (fun L2 h2 H2 locs2 ls2 => kk _ _ L2 h2 H2 locs2 ls2 (Nat.le_refl _) (Nat.le_refl _))
        case o245 => omega
        case o246 => omega
        case o247 => omega
        case o248 => omega
end
section
theorem kz_155 : Cond.laysStatic "SmallCourt" "WITHOUT" "[I" ∈ lw_tbl := kt_1 (List.mem_of_getElem? (i := 62) rfl)
theorem kz_463 : Cond.stringRef "SmallCourt$Reader" 49 "-       most    split   week    keep    late    gaol    -       longest age     cost    prove   " ∈ lw_tbl := kt_2 (List.mem_of_getElem? (i := 130) rfl)
theorem kz_532 : Cond.stringRef "SmallCourt$Reader" 73 "summons hearing order   seizure " ∈ lw_tbl := kt_2 (List.mem_of_getElem? (i := 199) rfl)
theorem kz_584 : Cond.stringRef "SmallCourt$Reader" 99 "and     " ∈ lw_tbl := kt_3 (List.mem_of_getElem? (i := 11) rfl)
theorem kz_585 : Cond.stringRef "SmallCourt$Reader" 105 "or      " ∈ lw_tbl := kt_3 (List.mem_of_getElem? (i := 12) rfl)
theorem kz_561 : Cond.stringRef "SmallCourt$Reader" 107 "not     " ∈ lw_tbl := kt_2 (List.mem_of_getElem? (i := 228) rfl)
theorem kz_574 : Cond.stringRef "SmallCourt$Reader" 116 "oath    denied  note    witness own     other   alike   claimed " ∈ lw_tbl := kt_3 (List.mem_of_getElem? (i := 1) rfl)
theorem kz_550 : Cond.laysStatic "SmallCourt" "LEAST_TOLD" "[I" ∈ lw_tbl := kt_2 (List.mem_of_getElem? (i := 217) rfl)
theorem kz_552 : Cond.laysStatic "SmallCourt" "MOST_TOLD" "[I" ∈ lw_tbl := kt_2 (List.mem_of_getElem? (i := 219) rfl)
theorem kz_481 : Cond.laysStatic "java/lang/String" "COMPACT_STRINGS" "Z" ∈ lw_tbl := kt_2 (List.mem_of_getElem? (i := 148) rfl)
theorem kz_501 : Cond.laysStatic "jdk/internal/util/Preconditions" "SIOOBE_FORMATTER" "Ljava/util/function/BiFunction;" ∈ lw_tbl := kt_2 (List.mem_of_getElem? (i := 168) rfl)

theorem hx_lenS {args : Array Value} {s : State} {t : Term} {v : Value} (h : (Term.length t).eval args s none [] s = some v) : ∃ a cell, t.eval args s none [] s = some (.ref a) ∧ s.arrayAt? a = some cell ∧ cell.slots.size < 2 ^ 31 ∧ v = .int cell.slots.size.toInt32 := by
  obtain ⟨a, cell, h1, h2, h3⟩ := Term.length_spec h
  refine ⟨a, cell, h1, h2, ?_, h3⟩
  simp only [Term.eval, h1, Option.bind_eq_bind, Option.bind_some, h2] at h
  by_cases hs : cell.slots.size < 2 ^ 31
  · exact hs
  · rw [if_neg hs] at h; cases h
theorem hx_nest {args : Array Value} {s : State} (htl : ∀ w ∈ lw_tbl, w.before args s = true) : ∀ w ∈ hx_N, va_Nw w s := by
  intro w hw
  unfold hx_N at hw
  simp only [List.mem_cons, List.not_mem_nil, or_false] at hw
  rcases hw with rfl | rfl | rfl | rfl | rfl | rfl | rfl | rfl | rfl | rfl | rfl <;> first | exact va_Nw.of rfl (htl _ kw_121) | exact va_Nw.of rfl (htl _ kw_154) | exact va_Nw.of rfl (htl _ kw_192) | exact va_Nw.of rfl (htl _ kw_227) | exact va_Nw.of rfl (htl _ kw_254) | exact va_Nw.of rfl (htl _ kw_305) | exact va_Nw.of rfl (htl _ kw_340) | exact va_Nw.of rfl (htl _ kw_549) | exact va_Nw.of rfl (htl _ kw_551) | exact va_Nw.of rfl (htl _ kw_919) | exact va_Nw.of rfl (htl _ kw_975)
theorem hx_wo {args : Array Value} {s : State} (hgv : (Jvm.Cond.and given_1 narrow_1).before args s = true) (htl : ∀ w ∈ lw_tbl, w.before args s = true) : ∃ b0, va_Z "SmallCourt" "WITHOUT" "[I" (.ref b0) (fun q : Nat => s.heap.size ≤ q) s s.heap ∧ va_X b0 14 P_wo s s.heap ∧ b0 < s.heap.size := by
  have hs := flat_of_before _ hgv
  have harr : (Cond.arrayOf (Term.static "SmallCourt" "WITHOUT" "[I") .int).before args s = true := hs _ (by decide +kernel)
  have hlen : (Term.length (Term.static "SmallCourt" "WITHOUT" "[I")).eval args s none [] s = some (.int 14) := va_eqt (hs _ (by decide +kernel))
  have el : ∀ (j v : Int32), (Cond.eq (Term.elem (Term.static "SmallCourt" "WITHOUT" "[I") (.int j)) (.int v)) ∈ flatC (Jvm.Cond.and given_1 narrow_1) → (Term.elem (Term.static "SmallCourt" "WITHOUT" "[I") (.int j)).eval args s none [] s = some (.int v) := fun j v h => va_eqt (hs _ h)
  have hel : ∀ j : Nat, j < 14 → (Term.elem (Term.static "SmallCourt" "WITHOUT" "[I") (.int (Int32.ofNat j))).eval args s none [] s = some (.int (P_wo j)) := by
    intro j hj
    match j, hj with
    | 0, _ => exact el 0 0 (by decide +kernel)
    | 1, _ => exact el 1 480 (by decide +kernel)
    | 2, _ => exact el 2 30 (by decide +kernel)
    | 3, _ => exact el 3 12 (by decide +kernel)
    | 4, _ => exact el 4 60 (by decide +kernel)
    | 5, _ => exact el 5 2 (by decide +kernel)
    | 6, _ => exact el 6 4 (by decide +kernel)
    | 7, _ => exact el 7 1 (by decide +kernel)
    | 8, _ => exact el 8 40 (by decide +kernel)
    | 9, _ => exact el 9 21 (by decide +kernel)
    | 10, _ => exact el 10 0 (by decide +kernel)
    | 11, _ => exact el 11 0 (by decide +kernel)
    | 12, _ => exact el 12 0 (by decide +kernel)
    | 13, _ => exact el 13 0 (by decide +kernel)
    | k + 14, hk => exact absurd hk (by omega)
  obtain ⟨t, ht, cell, h1, h2, h3, h4, h5, h6, h7⟩ := va_Tof (N := 14) (f := fun j => .int (P_wo j)) (A := fun q : Nat => s.heap.size ≤ q) (by decide) harr hlen hel (fun a h => Nat.not_le.mpr h)
  obtain ⟨a, cell2, e1, e2, e3, e4⟩ := hx_lenS hlen
  have ea : a = t := by
    have := e1.symm.trans ht
    cases this
    rfl
  subst ea
  have ec : cell2 = cell := Option.some.inj ((State.arrayAt?_spec e2).1.symm.trans h1)
  subst ec
  have hsz : cell2.slots.size = 14 := by
    have q1 : (14 : Int32) = cell2.slots.size.toInt32 := Value.int.inj e4
    have q2 : (cell2.slots.size.toInt32).toInt = (cell2.slots.size : Int) := nI_toInt e3
    rw [← q1] at q2
    have q3 : (14 : Int32).toInt = 14 := by decide
    omega
  exact ⟨a, va_Zof (htl _ kz_155) (htl _ (hx_sub _ kw_94)) ht (fun a h => Nat.not_le.mpr h), ⟨cell2, h1, h2, h3, hsz, h6⟩, (Array.getElem?_eq_some_iff.mp h1).1⟩
theorem hx_AR {args : Array Value} {s : State} {ty : FieldType} (h : (Cond.arrayClass ty).before args s = true) (hr : ∀ c1 : ClassId, s.vm.findClass ("[" ++ ty.toString) = some c1 → va_RA s c1 ty) : ∃ cA : ClassId, ArrOfT s cA ty ∧ va_RA s cA ty := by
  obtain ⟨cA, kA, comp, h1, h2, h3⟩ := Cond.arrayClass_spec h
  exact ⟨cA, fun n z => ⟨fun k h => (by cases h), kA, h2, comp, h3⟩, hr cA h1⟩
theorem hx_AQ {args : Array Value} {s : State} {C : String} (h : (Cond.arrayOver (.object C)).before args s = true) : ∃ cA : ClassId, ArrOfT s cA (.object C) ∧ va_RA s cA (.object C) := by
  obtain ⟨comp, cA, kA, h1, h2, h3, h4, h5⟩ := Cond.arrayOver_spec h
  exact ⟨cA, fun n z => ⟨fun k h => (by cases h), kA, h3, comp, h4⟩, kA, comp, h3, h4, h1, h5⟩
set_option maxHeartbeats 4000000 in
theorem hx_K0 {args : Array Value} {s : State} (htl : ∀ w ∈ lw_tbl, w.before args s = true) : ∃ (dC : Nat → ClassId) (dI : Nat → Nat → Nat) (dA : Nat → ClassId), va_K (dC, dI) vwCl (P_ty dA) s := by
  have hts : ∀ w ∈ hx_all, w.before args s = true := fun w hw => htl w (hx_sub w hw)
  obtain ⟨c0, iS0, hKn0⟩ := u_known (C := RX0) (T := TX0) (N := 5) (n := 5) hts kc_0 (hts _ kw_149)
  obtain ⟨c1, iS1, hKn1⟩ := u_known (C := RX1) (T := TX1) (N := 8) (n := 8) hts kc_1 (hts _ kw_191)
  obtain ⟨c2, iS2, hKn2⟩ := u_known (C := RX2) (T := TX2) (N := 19) (n := 19) hts kc_2 (hts _ kw_716)
  obtain ⟨c3, iS3, hKn3⟩ := u_known (C := RX3) (T := TX3) (N := 6) (n := 6) hts kc_3 (hts _ kw_226)
  obtain ⟨c4, iS4, hKn4⟩ := u_known (C := RX4) (T := TX4) (N := 10) (n := 10) hts kc_4 (hts _ kw_605)
  obtain ⟨c5, iS5, hKn5⟩ := u_known (C := RX5) (T := TX5) (N := 13) (n := 13) hts kc_5 (hts _ kw_253)
  obtain ⟨c6, iS6, hKn6⟩ := u_known (C := RX6) (T := TX6) (N := 7) (n := 7) hts kc_6 (hts _ kw_120)
  obtain ⟨c7, iS7, hKn7⟩ := u_known (C := RX7) (T := TX7) (N := 8) (n := 8) hts kc_7 (hts _ kw_304)
  obtain ⟨c8, iS8, hKn8⟩ := u_known (C := RX8) (T := TX8) (N := 5) (n := 5) hts kc_8 (hts _ kw_339)
  obtain ⟨c9, iS9, hKn9⟩ := u_known (C := RX9) (T := TX9) (N := 20) (n := 20) hts kc_9 (hts _ kw_112)
  obtain ⟨c10, iS10, hKn10⟩ := u_known (C := RX10) (T := TX10) (N := 98) (n := 98) hts kc_10 (hts _ kw_1114)
  obtain ⟨a0, A0, B0⟩ := hx_AR (ty := .int) (hts _ kw_186) (fun _ h => h)
  obtain ⟨a1, A1, B1⟩ := hx_AR (ty := .byte) (hts _ kw_147) (fun _ h => h)
  obtain ⟨a2, A2, B2⟩ := hx_AR (ty := .boolean) (hts _ kw_222) (fun _ h => h)
  obtain ⟨a3, A3, B3⟩ := hx_AR (ty := .long) (hts _ kw_1438) (fun _ h => h)
  obtain ⟨a4, A4, B4⟩ := hx_AQ (C := "SmallCourt$Act") (htl _ kw_187)
  obtain ⟨a5, A5, B5⟩ := hx_AQ (C := "SmallCourt$Person") (htl _ kw_189)
  obtain ⟨a6, A6, B6⟩ := hx_AQ (C := "SmallCourt$Claim") (htl _ kw_224)
  refine ⟨fun k => match k with | 0 => c0 | 1 => c1 | 2 => c2 | 3 => c3 | 4 => c4 | 5 => c5 | 6 => c6 | 7 => c7 | 8 => c8 | 9 => c9 | _ => c10, fun k => match k with | 0 => iS0 | 1 => iS1 | 2 => iS2 | 3 => iS3 | 4 => iS4 | 5 => iS5 | 6 => iS6 | 7 => iS7 | 8 => iS8 | 9 => iS9 | _ => iS10, fun k => match k with | 0 => a0 | 1 => a1 | 2 => a2 | 3 => a3 | 4 => a4 | 5 => a5 | _ => a6, fun k q hq => ?_, fun k q hq => ?_⟩
  · match k, hq with
    | 0, hq => cases hq; exact hKn0
    | 1, hq => cases hq; exact hKn1
    | 2, hq => cases hq; exact hKn2
    | 3, hq => cases hq; exact hKn3
    | 4, hq => cases hq; exact hKn4
    | 5, hq => cases hq; exact hKn5
    | 6, hq => cases hq; exact hKn6
    | 7, hq => cases hq; exact hKn7
    | 8, hq => cases hq; exact hKn8
    | 9, hq => cases hq; exact hKn9
    | 10, hq => cases hq; exact hKn10
    | k + 11, hq => simp [vwCl] at hq
  · match k, hq with
    | 0, hq => cases hq; exact ⟨A0, B0⟩
    | 1, hq => cases hq; exact ⟨A1, B1⟩
    | 2, hq => cases hq; exact ⟨A2, B2⟩
    | 3, hq => cases hq; exact ⟨A3, B3⟩
    | 4, hq => cases hq; exact ⟨A4, B4⟩
    | 5, hq => cases hq; exact ⟨A5, B5⟩
    | 6, hq => cases hq; exact ⟨A6, B6⟩
    | k + 7, hq => simp [P_ty] at hq

theorem hx_xs {b : Nat} {s : State} (hgv : (Jvm.Cond.and given_1 narrow_1).before #[Value.ref b] s = true) (htl : ∀ w ∈ lw_tbl, w.before #[Value.ref b] s = true) : ∃ (t1 t2 : Nat) (kf vf : Nat → Nat), ∀ b0 : Nat, hx_Xs (fun q : Nat => s.heap.size ≤ q) (b0, t1, t2, kf, vf) s := by
  have hs := flat_of_before _ hgv
  have G : ∀ (i : Nat) {w : Cond}, (flatC (Jvm.Cond.and given_1 narrow_1))[i]? = some w → w.before #[Value.ref b] s = true := fun i w h => hs w (List.mem_of_getElem? h)
  have hA : ∀ a : Nat, a < s.heap.size → ¬ (fun q : Nat => s.heap.size ≤ q) a := fun a h => Nat.not_le.mpr h
  obtain ⟨t1, ht1, hT1⟩ := va_Tof (tm := Term.static "SmallCourt" "LEAST_TOLD" "[I") (ty := .int) (N := 14) (f := P_lt) (A := (fun q : Nat => s.heap.size ≤ q)) (by decide) (G 27 (by decide +kernel)) (va_eqt (G 28 (by decide +kernel))) (fun j hj => match j, hj with | 0, _ => va_eqt (G 29 (by decide +kernel)) | 1, _ => va_eqt (G 30 (by decide +kernel)) | 2, _ => va_eqt (G 31 (by decide +kernel)) | 3, _ => va_eqt (G 32 (by decide +kernel)) | 4, _ => va_eqt (G 33 (by decide +kernel)) | 5, _ => va_eqt (G 34 (by decide +kernel)) | 6, _ => va_eqt (G 35 (by decide +kernel)) | 7, _ => va_eqt (G 36 (by decide +kernel)) | 8, _ => va_eqt (G 37 (by decide +kernel)) | 9, _ => va_eqt (G 38 (by decide +kernel)) | 10, _ => va_eqt (G 39 (by decide +kernel)) | 11, _ => va_eqt (G 40 (by decide +kernel)) | 12, _ => va_eqt (G 41 (by decide +kernel)) | 13, _ => va_eqt (G 42 (by decide +kernel)) | k + 14, hk => absurd hk (by omega)) hA
  obtain ⟨t2, ht2, hT2⟩ := va_Tof (tm := Term.static "SmallCourt" "MOST_TOLD" "[I") (ty := .int) (N := 14) (f := P_mt) (A := (fun q : Nat => s.heap.size ≤ q)) (by decide) (G 44 (by decide +kernel)) (va_eqt (G 45 (by decide +kernel))) (fun j hj => match j, hj with | 0, _ => va_eqt (G 46 (by decide +kernel)) | 1, _ => va_eqt (G 47 (by decide +kernel)) | 2, _ => va_eqt (G 48 (by decide +kernel)) | 3, _ => va_eqt (G 49 (by decide +kernel)) | 4, _ => va_eqt (G 50 (by decide +kernel)) | 5, _ => va_eqt (G 51 (by decide +kernel)) | 6, _ => va_eqt (G 52 (by decide +kernel)) | 7, _ => va_eqt (G 53 (by decide +kernel)) | 8, _ => va_eqt (G 54 (by decide +kernel)) | 9, _ => va_eqt (G 55 (by decide +kernel)) | 10, _ => va_eqt (G 56 (by decide +kernel)) | 11, _ => va_eqt (G 57 (by decide +kernel)) | 12, _ => va_eqt (G 58 (by decide +kernel)) | 13, _ => va_eqt (G 59 (by decide +kernel)) | k + 14, hk => absurd hk (by omega)) hA
  have hd0 : ∀ q : Nat, q < 96 → (flatC (Jvm.Cond.and given_1 narrow_1))[97 + q]? = some (Cond.eq (.elem (.field (Term.string "SmallCourt$Reader" 49) "java/lang/String" "value" "[B") (.int (Int32.ofNat q))) (.int ((P_by.getD 0 []).getD q 0))) := by decide +kernel
  have he0 : ∀ q : Nat, q < 96 → (Cond.eq (.elem (.field (Term.string "SmallCourt$Reader" 49) "java/lang/String" "value" "[B") (.int (Int32.ofNat q))) (.int ((P_by.getD 0 []).getD q 0))).before #[Value.ref b] s = true := fun q hq => G (97 + q) (hd0 q hq)
  have hd1 : ∀ q : Nat, q < 32 → (flatC (Jvm.Cond.and given_1 narrow_1))[197 + q]? = some (Cond.eq (.elem (.field (Term.string "SmallCourt$Reader" 73) "java/lang/String" "value" "[B") (.int (Int32.ofNat q))) (.int ((P_by.getD 1 []).getD q 0))) := by decide +kernel
  have he1 : ∀ q : Nat, q < 32 → (Cond.eq (.elem (.field (Term.string "SmallCourt$Reader" 73) "java/lang/String" "value" "[B") (.int (Int32.ofNat q))) (.int ((P_by.getD 1 []).getD q 0))).before #[Value.ref b] s = true := fun q hq => G (197 + q) (hd1 q hq)
  have hd2 : ∀ q : Nat, q < 8 → (flatC (Jvm.Cond.and given_1 narrow_1))[319 + q]? = some (Cond.eq (.elem (.field (Term.string "SmallCourt$Reader" 99) "java/lang/String" "value" "[B") (.int (Int32.ofNat q))) (.int ((P_by.getD 2 []).getD q 0))) := by decide +kernel
  have he2 : ∀ q : Nat, q < 8 → (Cond.eq (.elem (.field (Term.string "SmallCourt$Reader" 99) "java/lang/String" "value" "[B") (.int (Int32.ofNat q))) (.int ((P_by.getD 2 []).getD q 0))).before #[Value.ref b] s = true := fun q hq => G (319 + q) (hd2 q hq)
  have hd3 : ∀ q : Nat, q < 8 → (flatC (Jvm.Cond.and given_1 narrow_1))[335 + q]? = some (Cond.eq (.elem (.field (Term.string "SmallCourt$Reader" 105) "java/lang/String" "value" "[B") (.int (Int32.ofNat q))) (.int ((P_by.getD 3 []).getD q 0))) := by decide +kernel
  have he3 : ∀ q : Nat, q < 8 → (Cond.eq (.elem (.field (Term.string "SmallCourt$Reader" 105) "java/lang/String" "value" "[B") (.int (Int32.ofNat q))) (.int ((P_by.getD 3 []).getD q 0))).before #[Value.ref b] s = true := fun q hq => G (335 + q) (hd3 q hq)
  have hd4 : ∀ q : Nat, q < 8 → (flatC (Jvm.Cond.and given_1 narrow_1))[234 + q]? = some (Cond.eq (.elem (.field (Term.string "SmallCourt$Reader" 107) "java/lang/String" "value" "[B") (.int (Int32.ofNat q))) (.int ((P_by.getD 4 []).getD q 0))) := by decide +kernel
  have he4 : ∀ q : Nat, q < 8 → (Cond.eq (.elem (.field (Term.string "SmallCourt$Reader" 107) "java/lang/String" "value" "[B") (.int (Int32.ofNat q))) (.int ((P_by.getD 4 []).getD q 0))).before #[Value.ref b] s = true := fun q hq => G (234 + q) (hd4 q hq)
  have hd5 : ∀ q : Nat, q < 64 → (flatC (Jvm.Cond.and given_1 narrow_1))[248 + q]? = some (Cond.eq (.elem (.field (Term.string "SmallCourt$Reader" 116) "java/lang/String" "value" "[B") (.int (Int32.ofNat q))) (.int ((P_by.getD 5 []).getD q 0))) := by decide +kernel
  have he5 : ∀ q : Nat, q < 64 → (Cond.eq (.elem (.field (Term.string "SmallCourt$Reader" 116) "java/lang/String" "value" "[B") (.int (Int32.ofNat q))) (.int ((P_by.getD 5 []).getD q 0))).before #[Value.ref b] s = true := fun q hq => G (248 + q) (hd5 q hq)
  obtain ⟨kf, vf, hvs, hve⟩ := vk_Sof (N := 6) (tm := fun i => Term.string "SmallCourt$Reader" (P_si.getD i 0)) (len := P_ln) (byt := P_by) (A := (fun q : Nat => s.heap.size ≤ q)) (s := s) (args := #[Value.ref b]) (by decide) (fun i hi => match i, hi with | 0, _ => (G 93 (by decide +kernel)) | 1, _ => (G 193 (by decide +kernel)) | 2, _ => (G 315 (by decide +kernel)) | 3, _ => (G 331 (by decide +kernel)) | 4, _ => (G 230 (by decide +kernel)) | 5, _ => (G 244 (by decide +kernel)) | k + 6, hk => absurd hk (by omega)) (fun i hi => match i, hi with | 0, _ => (G 94 (by decide +kernel)) | 1, _ => (G 194 (by decide +kernel)) | 2, _ => (G 316 (by decide +kernel)) | 3, _ => (G 332 (by decide +kernel)) | 4, _ => (G 231 (by decide +kernel)) | 5, _ => (G 245 (by decide +kernel)) | k + 6, hk => absurd hk (by omega)) (fun i hi => match i, hi with | 0, _ => (G 95 (by decide +kernel)) | 1, _ => (G 195 (by decide +kernel)) | 2, _ => (G 317 (by decide +kernel)) | 3, _ => (G 333 (by decide +kernel)) | 4, _ => (G 232 (by decide +kernel)) | 5, _ => (G 246 (by decide +kernel)) | k + 6, hk => absurd hk (by omega)) (fun i hi => match i, hi with | 0, _ => (G 96 (by decide +kernel)) | 1, _ => (G 196 (by decide +kernel)) | 2, _ => (G 318 (by decide +kernel)) | 3, _ => (G 334 (by decide +kernel)) | 4, _ => (G 233 (by decide +kernel)) | 5, _ => (G 247 (by decide +kernel)) | k + 6, hk => absurd hk (by omega)) (fun i hi => match i, hi with | 0, _ => he0 | 1, _ => he1 | 2, _ => he2 | 3, _ => he3 | 4, _ => he4 | 5, _ => he5 | k + 6, hk => absurd hk (by omega)) (fun i j hi hj hij => match i, j, hi, hj with | 0, 0, _, _ => absurd rfl hij | 0, 1, _, _ => Or.inl (G 229 (by decide +kernel)) | 0, 2, _, _ => Or.inl (G 327 (by decide +kernel)) | 0, 3, _, _ => Or.inl (G 343 (by decide +kernel)) | 0, 4, _, _ => Or.inl (G 242 (by decide +kernel)) | 0, 5, _, _ => Or.inl (G 312 (by decide +kernel)) | 1, 0, _, _ => Or.inr (G 229 (by decide +kernel)) | 1, 1, _, _ => absurd rfl hij | 1, 2, _, _ => Or.inl (G 328 (by decide +kernel)) | 1, 3, _, _ => Or.inl (G 344 (by decide +kernel)) | 1, 4, _, _ => Or.inl (G 243 (by decide +kernel)) | 1, 5, _, _ => Or.inl (G 313 (by decide +kernel)) | 2, 0, _, _ => Or.inr (G 327 (by decide +kernel)) | 2, 1, _, _ => Or.inr (G 328 (by decide +kernel)) | 2, 2, _, _ => absurd rfl hij | 2, 3, _, _ => Or.inl (G 347 (by decide +kernel)) | 2, 4, _, _ => Or.inr (G 329 (by decide +kernel)) | 2, 5, _, _ => Or.inr (G 330 (by decide +kernel)) | 3, 0, _, _ => Or.inr (G 343 (by decide +kernel)) | 3, 1, _, _ => Or.inr (G 344 (by decide +kernel)) | 3, 2, _, _ => Or.inr (G 347 (by decide +kernel)) | 3, 3, _, _ => absurd rfl hij | 3, 4, _, _ => Or.inr (G 345 (by decide +kernel)) | 3, 5, _, _ => Or.inr (G 346 (by decide +kernel)) | 4, 0, _, _ => Or.inr (G 242 (by decide +kernel)) | 4, 1, _, _ => Or.inr (G 243 (by decide +kernel)) | 4, 2, _, _ => Or.inl (G 329 (by decide +kernel)) | 4, 3, _, _ => Or.inl (G 345 (by decide +kernel)) | 4, 4, _, _ => absurd rfl hij | 4, 5, _, _ => Or.inl (G 314 (by decide +kernel)) | 5, 0, _, _ => Or.inr (G 312 (by decide +kernel)) | 5, 1, _, _ => Or.inr (G 313 (by decide +kernel)) | 5, 2, _, _ => Or.inl (G 330 (by decide +kernel)) | 5, 3, _, _ => Or.inl (G 346 (by decide +kernel)) | 5, 4, _, _ => Or.inr (G 314 (by decide +kernel)) | 5, 5, _, _ => absurd rfl hij | k + 6, _, hk, _ => absurd hk (by omega) | _, k + 6, _, hk => absurd hk (by omega)) hA
  exact ⟨t1, t2, kf, vf, fun b0 => ⟨va_Zof (htl _ kz_550) (htl _ (hx_sub _ kw_94)) ht1 hA, hT1, va_Zof (htl _ kz_552) (htl _ (hx_sub _ kw_94)) ht2 hA, hT2, va_Zof (htl _ kz_481) (htl _ (hx_sub _ kw_104)) (va_eqt (G 21 (by decide +kernel))) hA, va_Zqof (htl _ kz_501) (htl _ (hx_sub _ kw_106)) (G 22 (by decide +kernel)) hA, hvs, (fun i hi => match i, hi with | 0, _ => vk_R.of (htl _ kz_463) (hve 0 (by decide)) | 1, _ => vk_R.of (htl _ kz_532) (hve 1 (by decide)) | 2, _ => vk_R.of (htl _ kz_584) (hve 2 (by decide)) | 3, _ => vk_R.of (htl _ kz_585) (hve 3 (by decide)) | 4, _ => vk_R.of (htl _ kz_561) (hve 4 (by decide)) | 5, _ => vk_R.of (htl _ kz_574) (hve 5 (by decide)) | k + 6, hk => absurd hk (by omega))⟩⟩
end
section
set_option maxHeartbeats 4000000 in
set_option maxRecDepth 100000 in
/-- THE LAW, from its entry -/
theorem whole_start {p : Program} {e : Env} {s : State} {m : MethodId} {below : List Frame} {meth : Method} {c : Code} (l : Launch) (hflags : l.flags = flags0) {b LN : Nat} {xs : Nat → Int32} (hL : LN ≤ 3584) (C0 : lw_At p s m meth c b LN xs) : W p l e room_1 s m #[Value.ref b] below meth c s.heap [] 0 0 (lw_Z below #[Value.ref b] s) (entryFrame m ([Value.ref b] : List Value).toArray 4) := by
  obtain ⟨hx, hb, hr, hml, hown, htl, hX, hbl, hlocks, hgv⟩ := id C0
  have hown : s.vm.findClass "SmallCourtLaw" = some m.cls := hown
  have hts : ∀ w ∈ hx_all, w.before #[Value.ref b] s = true := fun w hw => htl w (hx_sub w hw)
  have hA : ∀ q : Nat, s.heap.size ≤ q → (fun q : Nat => s.heap.size ≤ q) q := fun _ h => h
  have hbA : ¬ s.heap.size ≤ b := Nat.not_le.mpr hbl
  obtain ⟨w0, hz1, hz2, hz3⟩ := hx_wo hgv htl
  obtain ⟨t1, t2, kf, vf, hz4⟩ := hx_xs hgv htl
  obtain ⟨b0, hb0⟩ : ∃ z : hx_z, z = (w0, t1, t2, kf, vf) := ⟨_, rfl⟩
  have hZ : hx_Xt (fun q : Nat => s.heap.size ≤ q) b0 s := ?o0
  case o0 =>
    rw [hb0]
    exact ⟨hx_nest htl, ⟨va_AO.of (htl _ kw_187), va_AO.of (htl _ kw_189), va_AO.of (htl _ kw_224)⟩, hz1, hz2, hz3, Nat.not_le.mpr hz3, hz4 w0⟩
  obtain ⟨dC, dI, dA, hK⟩ := hx_K0 htl
  have hW : hx_W T_tb (P_ty dA) (dC, dI) vwCl (fun q : Nat => s.heap.size ≤ q) s.heap [] (fun _ => 0, fun _ _ => 0, fun _ _ => none) s s.heap [] := ⟨hK, fun k q h => by simp [hx_p, va_pl] at h, ⟨fun i j p q h => by simp [hx_p, va_pl] at h, fun k q h => by simp [hx_p, va_pl] at h⟩, va_S.rf, hA⟩
  have hT : hx_T T_tb [] (fun _ => 0, fun _ _ => 0, fun _ _ => none) := fun a ha => by cases ha
  have hl := lv_entry ([.ref b]) (n := 4) (Nat.le_of_ble_eq_true rfl)
  rw [lg_entry_eq]
  generalize (lg_sl ([.ref b]) ++ List.replicate (4 - (lg_sl ([.ref b])).length) Slot.unset).toArray = ls at hl ⊢
  have hl : lv_has ls 4 [(0, .ref b)] := hl
  refine hk_new hx hb hts hC_9 hown hW 125 tt_125 rfl ?o1 kw_111 kw_112 kw_94 (Nat.le_of_ble_eq_true rfl) (Nat.le_of_ble_eq_true rfl) dL_law_0 (fun q_2 H h_1 eh_1 hqq_2 hW hs gq_2 => ?_)
  case o1 => decide
  have hT : hx_T T_tb ([] ++ [q_2]) h_1 := ?o2
  case o2 =>
    rw [eh_1]
    exact hx_T_nw hT hqq_2 tt_125 rfl
  have fz_3 : ∀ j, ([] : List Nat).contains j = false → h_1.2.1 q_2 j = 0 ∧ h_1.2.2 q_2 j = none := ?o3
  case o3 =>
    rw [eh_1]
    exact fun _ _ => ⟨hx_nw_i, hx_nw_r⟩
  refine lv_dup hx hb dL_law_3 rfl ?_
  refine hx_gov (hx_runIX (As := []) (rest := [.ref q_2]) ⟨hx, hb, hml, hown, hts⟩ hW (t_X9_init_p l dC dI dA ([] ++ [q_2]) h_1 H.size b0 q_2 hT gq_2 (fun j => fz_3 j rfl)) hZ (cwI 0 hts (hx_gC kw_115) rfl rfl rfl (hts _ kw_94) (hts _ kw_113) (hts _ kw_114) rfl (by decide +kernel) ⟨Nat.le_of_ble_eq_true rfl, Nat.le_of_ble_eq_true rfl⟩) rfl hl.1 rfl (Nat.le_of_ble_eq_true rfl) dL_law_4 ⟨Nat.le_of_ble_eq_true rfl, Nat.le_of_ble_eq_true rfl⟩) hW (fun L_4 h_5 H locs p_7 hW => ?_)
  obtain ⟨hT, hs, gNq_2, po_8, po_9, po_10, po_11, po_12, po_13, po_14, po_15, po_16, po_17, po_18, po_19, po_20, po_21⟩ := p_7
  replace hT : hx_T T_tb L_4 h_5 := hT
  replace hs : hx_S T_tb [(11, 0), (12, 0), (116, 0), (116, 1), (116, 2), (116, 3), (116, 4), (117, 1), (117, 2), (117, 3), (117, 4), (117, 5), (117, 6), (117, 7), (119, 1), (119, 2), (119, 3), (119, 4), (119, 5), (121, 2), (121, 3), (121, 4), (121, 5), (121, 6), (121, 7), (121, 8), (122, 0), (123, 0), (123, 3), (123, 5), (123, 6), (123, 7), (124, 2), (124, 3), (124, 4), (125, 0), (125, 3), (125, 4), (125, 5), (125, 7), (125, 9), (125, 10), (125, 12), (125, 14), (125, 15), (125, 16), (125, 17), (125, 18), (125, 19)] (hx_X ([] ++ [q_2]) q_2) h_1 L_4 h_5 := hs
  have gq_2 : hx_g L_4 h_5 q_2 9 := gNq_2
  have po_8 : h_5.2.1 q_2 2 = 0 := po_8
  have po_9 : h_5.2.1 q_2 6 = 0 := po_9
  have po_10 : h_5.2.1 q_2 8 = 0 := po_10
  have po_11 : h_5.2.1 q_2 11 = 0 := po_11
  have po_12 : h_5.2.1 q_2 13 = 0 := po_12
  obtain ⟨q_22, fq_22, gq_22, po_13⟩ := po_13
  have fq_22 : h_5.2.2 q_2 19 = some q_22 := fq_22
  have gq_22 : hx_g L_4 h_5 q_22 8 := gq_22
  obtain ⟨po_13, po_13B, q_23, fq_23, gq_23, zq_23⟩ := po_13
  have po_13B : h_5.2.1 q_22 1 = 0 := po_13B
  have po_13 : h_5.2.1 q_22 0 = 0 := po_13
  have fq_23 : h_5.2.2 q_22 3 = some q_23 := fq_23
  have gq_23 : hx_g L_4 h_5 q_23 40 := gq_23
  have zq_23 : ∀ j, h_5.2.1 q_23 j = 0 ∧ h_5.2.2 q_23 j = none := zq_23
  obtain ⟨q_24, fq_24, gq_24, po_14⟩ := po_14
  have fq_24 : h_5.2.2 q_2 9 = some q_24 := fq_24
  have gq_24 : hx_g L_4 h_5 q_24 1 := gq_24
  have po_14 : h_5.2.1 q_24 0 = 0 := po_14
  obtain ⟨q_25, fq_25, gq_25, po_15⟩ := po_15
  have fq_25 : h_5.2.2 q_2 7 = some q_25 := fq_25
  have gq_25 : hx_g L_4 h_5 q_25 44 := gq_25
  have po_15 : ∀ j, h_5.2.1 q_25 j = 0 ∧ h_5.2.2 q_25 j = none := po_15
  obtain ⟨q_26, fq_26, gq_26, po_16⟩ := po_16
  have fq_26 : h_5.2.2 q_2 10 = some q_26 := fq_26
  have gq_26 : hx_g L_4 h_5 q_26 45 := gq_26
  have po_16 : ∀ j, h_5.2.1 q_26 j = 0 ∧ h_5.2.2 q_26 j = none := po_16
  have po_17 : h_5.2.1 q_2 1 = 0 := po_17
  obtain ⟨q_27, fq_27, gq_27, po_18⟩ := po_18
  have fq_27 : h_5.2.2 q_2 0 = some q_27 := fq_27
  have gq_27 : hx_g L_4 h_5 q_27 42 := gq_27
  have po_18 : ∀ j, h_5.2.1 q_27 j = 0 ∧ h_5.2.2 q_27 j = none := po_18
  obtain ⟨q_28, fq_28, gq_28, po_19⟩ := po_19
  have fq_28 : h_5.2.2 q_2 4 = some q_28 := fq_28
  have gq_28 : hx_g L_4 h_5 q_28 0 := gq_28
  have po_19 : hv_AQ h_5 q_28 (-1) hv_A0 := po_19
  obtain ⟨q_29, fq_29, gq_29⟩ := hx_rf hT gq_2 tt_9 (k := 5) (u := 43) rfl
  have hRAs : hv_RA h_5 q_29 q_28 0 (fun _ => hv_A0) := ⟨po_19, fun j hj => absurd hj ?o4⟩
  case o4 => omega
  obtain ⟨q_30, fq_30, gq_30, po_20⟩ := po_20
  have fq_30 : h_5.2.2 q_2 14 = some q_30 := fq_30
  have gq_30 : hx_g L_4 h_5 q_30 3 := gq_30
  obtain ⟨po_20, q_31, fq_31, gq_31, zq_31, q_32, fq_32, gq_32, zq_32, q_33, fq_33, gq_33, zq_33, q_34, fq_34, gq_34, zq_34, q_35, fq_35, gq_35, zq_35⟩ := po_20
  have po_20 : h_5.2.1 q_30 0 = 0 := po_20
  have fq_31 : h_5.2.2 q_30 2 = some q_31 := fq_31; have gq_31 : hx_g L_4 h_5 q_31 23 := gq_31; have zq_31 : ∀ j, h_5.2.1 q_31 j = 0 ∧ h_5.2.2 q_31 j = none := zq_31
  have fq_32 : h_5.2.2 q_30 3 = some q_32 := fq_32; have gq_32 : hx_g L_4 h_5 q_32 24 := gq_32; have zq_32 : ∀ j, h_5.2.1 q_32 j = 0 ∧ h_5.2.2 q_32 j = none := zq_32
  have fq_33 : h_5.2.2 q_30 5 = some q_33 := fq_33; have gq_33 : hx_g L_4 h_5 q_33 26 := gq_33; have zq_33 : ∀ j, h_5.2.1 q_33 j = 0 ∧ h_5.2.2 q_33 j = none := zq_33
  have fq_34 : h_5.2.2 q_30 4 = some q_34 := fq_34; have gq_34 : hx_g L_4 h_5 q_34 25 := gq_34; have zq_34 : ∀ j, h_5.2.1 q_34 j = 0 ∧ h_5.2.2 q_34 j = none := zq_34
  have fq_35 : h_5.2.2 q_30 1 = some q_35 := fq_35; have gq_35 : hx_g L_4 h_5 q_35 22 := gq_35; have zq_35 : ∀ j, h_5.2.1 q_35 j = 0 ∧ h_5.2.2 q_35 j = none := zq_35
  obtain ⟨q_36, fq_36, gq_36, po_21⟩ := po_21
  have fq_36 : h_5.2.2 q_2 18 = some q_36 := fq_36
  have gq_36 : hx_g L_4 h_5 q_36 7 := gq_36
  have po_21 : h_5.2.1 q_36 0 = -1 := po_21
  refine lv_astore_n (lv' := [(1, .ref q_2), (0, .ref b)]) hx hb dL_law_7 rfl hl ?o5 rfl (fun ls hl => ?_)
  case o5 => decide
  have hTo := hT
  refine hk_new hx hb hts hC_10 hown hW 126 tt_126 rfl ?o6 kw_1113 kw_1114 kw_103 (Nat.le_of_ble_eq_true rfl) (Nat.le_of_ble_eq_true rfl) dL_law_8 (fun q_38 H h_37 eh_37 hqq_38 hW hs gq_38 => ?_)
  case o6 => decide
  have hT : hx_T T_tb (L_4 ++ [q_38]) h_37 := ?o7
  case o7 =>
    rw [eh_37]
    exact hx_T_nw hT hqq_38 tt_126 rfl
  replace po_8 := (hs.o gq_2 trivial rfl).1.trans po_8
  replace po_9 := (hs.o gq_2 trivial rfl).1.trans po_9
  replace po_10 := (hs.o gq_2 trivial rfl).1.trans po_10
  replace po_11 := (hs.o gq_2 trivial rfl).1.trans po_11
  replace po_12 := (hs.o gq_2 trivial rfl).1.trans po_12
  replace fq_22 := (hs.o gq_2 trivial rfl).2.trans fq_22
  replace po_13B := (hs.o gq_22 trivial rfl).1.trans po_13B
  replace po_13 := (hs.o gq_22 trivial rfl).1.trans po_13
  replace fq_23 := (hs.o gq_22 trivial rfl).2.trans fq_23
  replace fq_24 := (hs.o gq_2 trivial rfl).2.trans fq_24
  replace po_14 := (hs.o gq_24 trivial rfl).1.trans po_14
  replace fq_25 := (hs.o gq_2 trivial rfl).2.trans fq_25
  replace fq_26 := (hs.o gq_2 trivial rfl).2.trans fq_26
  replace po_17 := (hs.o gq_2 trivial rfl).1.trans po_17
  replace fq_27 := (hs.o gq_2 trivial rfl).2.trans fq_27
  replace fq_28 := (hs.o gq_2 trivial rfl).2.trans fq_28
  replace fq_29 := (hs.o gq_2 trivial rfl).2.trans fq_29
  replace fq_30 := (hs.o gq_2 trivial rfl).2.trans fq_30
  replace po_20 := (hs.o gq_30 trivial rfl).1.trans po_20
  replace fq_31 := (hs.o gq_30 trivial rfl).2.trans fq_31
  replace fq_32 := (hs.o gq_30 trivial rfl).2.trans fq_32
  replace fq_33 := (hs.o gq_30 trivial rfl).2.trans fq_33
  replace fq_34 := (hs.o gq_30 trivial rfl).2.trans fq_34
  replace fq_35 := (hs.o gq_30 trivial rfl).2.trans fq_35
  replace fq_36 := (hs.o gq_2 trivial rfl).2.trans fq_36
  replace po_21 := (hs.o gq_36 trivial rfl).1.trans po_21
  replace hRAs : hv_RA h_37 q_29 q_28 0 (fun _ => hv_A0) := hv_RA_S hs hTo gq_29 gq_28 tt_43 tt_0 rfl rfl rfl rfl rfl rfl ?o8 hRAs
  case o8 => decide
  replace zq_23 : ∀ j, h_37.2.1 q_23 j = 0 ∧ h_37.2.2 q_23 j = none := fun j => ⟨(hs.a gq_23 rfl j).1.trans (zq_23 j).1, (hs.a gq_23 rfl j).2.trans (zq_23 j).2⟩
  replace po_15 : ∀ j, h_37.2.1 q_25 j = 0 ∧ h_37.2.2 q_25 j = none := fun j => ⟨(hs.a gq_25 rfl j).1.trans (po_15 j).1, (hs.a gq_25 rfl j).2.trans (po_15 j).2⟩
  replace po_16 : ∀ j, h_37.2.1 q_26 j = 0 ∧ h_37.2.2 q_26 j = none := fun j => ⟨(hs.a gq_26 rfl j).1.trans (po_16 j).1, (hs.a gq_26 rfl j).2.trans (po_16 j).2⟩
  replace po_18 : ∀ j, h_37.2.1 q_27 j = 0 ∧ h_37.2.2 q_27 j = none := fun j => ⟨(hs.a gq_27 rfl j).1.trans (po_18 j).1, (hs.a gq_27 rfl j).2.trans (po_18 j).2⟩
  replace zq_31 : ∀ j, h_37.2.1 q_31 j = 0 ∧ h_37.2.2 q_31 j = none := fun j => ⟨(hs.a gq_31 rfl j).1.trans (zq_31 j).1, (hs.a gq_31 rfl j).2.trans (zq_31 j).2⟩
  replace zq_32 : ∀ j, h_37.2.1 q_32 j = 0 ∧ h_37.2.2 q_32 j = none := fun j => ⟨(hs.a gq_32 rfl j).1.trans (zq_32 j).1, (hs.a gq_32 rfl j).2.trans (zq_32 j).2⟩
  replace zq_33 : ∀ j, h_37.2.1 q_33 j = 0 ∧ h_37.2.2 q_33 j = none := fun j => ⟨(hs.a gq_33 rfl j).1.trans (zq_33 j).1, (hs.a gq_33 rfl j).2.trans (zq_33 j).2⟩
  replace zq_34 : ∀ j, h_37.2.1 q_34 j = 0 ∧ h_37.2.2 q_34 j = none := fun j => ⟨(hs.a gq_34 rfl j).1.trans (zq_34 j).1, (hs.a gq_34 rfl j).2.trans (zq_34 j).2⟩
  replace zq_35 : ∀ j, h_37.2.1 q_35 j = 0 ∧ h_37.2.2 q_35 j = none := fun j => ⟨(hs.a gq_35 rfl j).1.trans (zq_35 j).1, (hs.a gq_35 rfl j).2.trans (zq_35 j).2⟩
  replace gq_2 := gq_2.S hs
  replace gq_22 := gq_22.S hs
  replace gq_23 := gq_23.S hs
  replace gq_24 := gq_24.S hs
  replace gq_25 := gq_25.S hs
  replace gq_26 := gq_26.S hs
  replace gq_27 := gq_27.S hs
  replace gq_28 := gq_28.S hs
  replace gq_29 := gq_29.S hs
  replace gq_30 := gq_30.S hs
  replace gq_31 := gq_31.S hs
  replace gq_32 := gq_32.S hs
  replace gq_33 := gq_33.S hs
  replace gq_34 := gq_34.S hs
  replace gq_35 := gq_35.S hs
  replace gq_36 := gq_36.S hs
  have fz_39 : ∀ j, ([] : List Nat).contains j = false → h_37.2.1 q_38 j = 0 ∧ h_37.2.2 q_38 j = none := ?o9
  case o9 =>
    rw [eh_37]
    exact fun _ _ => ⟨hx_nw_i, hx_nw_r⟩
  refine lv_dup hx hb dL_law_11 rfl ?_
  have hTo := hT
  refine hx_gov (hx_runIX (As := []) (rest := [.ref q_38]) ⟨hx, hb, hml, hown, hts⟩ hW (t_X10_init l dC dI dA (L_4 ++ [q_38]) h_37 H.size b0 q_38 hT gq_38 (fun j => fz_39 j rfl)) hZ (cwI 0 hts (hx_gC kw_1117) rfl rfl rfl (hts _ kw_103) (hts _ kw_1115) (hts _ kw_1116) rfl (by decide +kernel) ⟨Nat.le_of_ble_eq_true rfl, Nat.le_of_ble_eq_true rfl⟩) rfl hl.1 rfl (Nat.le_of_ble_eq_true rfl) dL_law_12 ⟨Nat.le_of_ble_eq_true rfl, Nat.le_of_ble_eq_true rfl⟩) hW (fun L_40 h_41 H locs p_43 hW => ?_)
  have hTo := hT
  have hT := p_43.1; replace p_43 := p_43.2
  have hs := p_43.1; replace p_43 := p_43.2
  have gN := p_43.1; replace p_43 := p_43.2
  have z10_0 := p_43.1; replace p_43 := p_43.2
  have z10_1 := p_43.1; replace p_43 := p_43.2
  have z10_2 := p_43.1; replace p_43 := p_43.2
  have z10_3 := p_43.1; replace p_43 := p_43.2
  have z10_4 := p_43.1; replace p_43 := p_43.2
  have z10_5 := p_43.1; replace p_43 := p_43.2
  have z10_6 := p_43.1; replace p_43 := p_43.2
  have z10_7 := p_43.1; replace p_43 := p_43.2
  have z10_8 := p_43.1; replace p_43 := p_43.2
  have z10_9 := p_43.1; replace p_43 := p_43.2
  have z10_10 := p_43.1; replace p_43 := p_43.2
  have z10_11 := p_43.1; replace p_43 := p_43.2
  have z10_12 := p_43.1; replace p_43 := p_43.2
  refine Exists.elim p_43 (fun k_words p_43E => ?_)
  refine Exists.elim p_43E (fun k_rule p_43E => ?_)
  refine Exists.elim p_43E (fun k_proofSteps p_43E => ?_)
  refine Exists.elim p_43E (fun k_proof p_43E => ?_)
  refine Exists.elim p_43E (fun k_tries p_43E => ?_)
  refine Exists.elim p_43E (fun k_isDead p_43E => ?_)
  refine Exists.elim p_43E (fun k_isJudge p_43E => ?_)
  refine Exists.elim p_43E (fun k_found p_43E => ?_)
  refine Exists.elim p_43E (fun k_list p_43E => ?_)
  refine Exists.elim p_43E (fun k_judged p_43E => ?_)
  refine Exists.elim p_43E (fun k_weekly p_43E => ?_)
  refine Exists.elim p_43E (fun k_owed p_43E => ?_)
  refine Exists.elim p_43E (fun k_doorX p_43E => ?_)
  refine Exists.elim p_43E (fun k_doorY p_43E => ?_)
  refine Exists.elim p_43E (fun k_tape p_43E => ?_)
  refine Exists.elim p_43E (fun k_born p_43E => ?_)
  refine Exists.elim p_43E (fun k_kin p_43E => ?_)
  refine Exists.elim p_43E (fun k_sum p_43E => ?_)
  refine Exists.elim p_43E (fun k_filed p_43E => ?_)
  refine Exists.elim p_43E (fun k_owedFrom p_43E => ?_)
  refine Exists.elim p_43E (fun k_heard p_43E => ?_)
  refine Exists.elim p_43E (fun k_ordered p_43E => ?_)
  refine Exists.elim p_43E (fun k_goods p_43E => ?_)
  refine Exists.elim p_43E (fun k_seized p_43E => ?_)
  refine Exists.elim p_43E (fun k_served p_43E => ?_)
  refine Exists.elim p_43E (fun k_earns p_43E => ?_)
  refine Exists.elim p_43E (fun k_heads p_43E => ?_)
  refine Exists.elim p_43E (fun k_payOf p_43E => ?_)
  refine Exists.elim p_43E (fun k_payDay p_43E => ?_)
  refine Exists.elim p_43E (fun k_paySum p_43E => ?_)
  refine Exists.elim p_43E (fun k_payKnown p_43E => ?_)
  refine Exists.elim p_43E (fun k_payStruck p_43E => ?_)
  refine Exists.elim p_43E (fun k_actDay p_43E => ?_)
  have fk_words := p_43E.1; replace p_43E := p_43E.2
  have gk_words := p_43E.1; replace p_43E := p_43E.2
  have fk_rule := p_43E.1; replace p_43E := p_43E.2
  have gk_rule := p_43E.1; replace p_43E := p_43E.2
  have fk_proofSteps := p_43E.1; replace p_43E := p_43E.2
  have gk_proofSteps := p_43E.1; replace p_43E := p_43E.2
  have fk_proof := p_43E.1; replace p_43E := p_43E.2
  have gk_proof := p_43E.1; replace p_43E := p_43E.2
  have fk_tries := p_43E.1; replace p_43E := p_43E.2
  have gk_tries := p_43E.1; replace p_43E := p_43E.2
  have fk_isDead := p_43E.1; replace p_43E := p_43E.2
  have gk_isDead := p_43E.1; replace p_43E := p_43E.2
  have fk_isJudge := p_43E.1; replace p_43E := p_43E.2
  have gk_isJudge := p_43E.1; replace p_43E := p_43E.2
  have fk_found := p_43E.1; replace p_43E := p_43E.2
  have gk_found := p_43E.1; replace p_43E := p_43E.2
  have fk_list := p_43E.1; replace p_43E := p_43E.2
  have gk_list := p_43E.1; replace p_43E := p_43E.2
  have fk_judged := p_43E.1; replace p_43E := p_43E.2
  have gk_judged := p_43E.1; replace p_43E := p_43E.2
  have fk_weekly := p_43E.1; replace p_43E := p_43E.2
  have gk_weekly := p_43E.1; replace p_43E := p_43E.2
  have fk_owed := p_43E.1; replace p_43E := p_43E.2
  have gk_owed := p_43E.1; replace p_43E := p_43E.2
  have fk_doorX := p_43E.1; replace p_43E := p_43E.2
  have gk_doorX := p_43E.1; replace p_43E := p_43E.2
  have fk_doorY := p_43E.1; replace p_43E := p_43E.2
  have gk_doorY := p_43E.1; replace p_43E := p_43E.2
  have fk_tape := p_43E.1; replace p_43E := p_43E.2
  have gk_tape := p_43E.1; replace p_43E := p_43E.2
  have fk_born := p_43E.1; replace p_43E := p_43E.2
  have gk_born := p_43E.1; replace p_43E := p_43E.2
  have fk_kin := p_43E.1; replace p_43E := p_43E.2
  have gk_kin := p_43E.1; replace p_43E := p_43E.2
  have fk_sum := p_43E.1; replace p_43E := p_43E.2
  have gk_sum := p_43E.1; replace p_43E := p_43E.2
  have fk_filed := p_43E.1; replace p_43E := p_43E.2
  have gk_filed := p_43E.1; replace p_43E := p_43E.2
  have fk_owedFrom := p_43E.1; replace p_43E := p_43E.2
  have gk_owedFrom := p_43E.1; replace p_43E := p_43E.2
  have fk_heard := p_43E.1; replace p_43E := p_43E.2
  have gk_heard := p_43E.1; replace p_43E := p_43E.2
  have fk_ordered := p_43E.1; replace p_43E := p_43E.2
  have gk_ordered := p_43E.1; replace p_43E := p_43E.2
  have fk_goods := p_43E.1; replace p_43E := p_43E.2
  have gk_goods := p_43E.1; replace p_43E := p_43E.2
  have fk_seized := p_43E.1; replace p_43E := p_43E.2
  have gk_seized := p_43E.1; replace p_43E := p_43E.2
  have fk_served := p_43E.1; replace p_43E := p_43E.2
  have gk_served := p_43E.1; replace p_43E := p_43E.2
  have fk_earns := p_43E.1; replace p_43E := p_43E.2
  have gk_earns := p_43E.1; replace p_43E := p_43E.2
  have fk_heads := p_43E.1; replace p_43E := p_43E.2
  have gk_heads := p_43E.1; replace p_43E := p_43E.2
  have fk_payOf := p_43E.1; replace p_43E := p_43E.2
  have gk_payOf := p_43E.1; replace p_43E := p_43E.2
  have fk_payDay := p_43E.1; replace p_43E := p_43E.2
  have gk_payDay := p_43E.1; replace p_43E := p_43E.2
  have fk_paySum := p_43E.1; replace p_43E := p_43E.2
  have gk_paySum := p_43E.1; replace p_43E := p_43E.2
  have fk_payKnown := p_43E.1; replace p_43E := p_43E.2
  have gk_payKnown := p_43E.1; replace p_43E := p_43E.2
  have fk_payStruck := p_43E.1; replace p_43E := p_43E.2
  have gk_payStruck := p_43E.1; replace p_43E := p_43E.2
  have fk_actDay := p_43E.1; replace p_43E := p_43E.2
  have gk_actDay := p_43E.1; replace p_43E := p_43E.2
  have hwd := p_43E.1; replace p_43E := p_43E.2
  have hwk := p_43E.1; replace p_43E := p_43E.2
  have hrp := p_43E.1; replace p_43E := p_43E.2
  have hz_tries := p_43E.1; replace p_43E := p_43E.2
  have hz_isDead := p_43E.1; replace p_43E := p_43E.2
  have hz_isJudge := p_43E.1; replace p_43E := p_43E.2
  have hz_found := p_43E.1; replace p_43E := p_43E.2
  have hz_list := p_43E.1; replace p_43E := p_43E.2
  have hz_judged := p_43E.1; replace p_43E := p_43E.2
  have hz_weekly := p_43E.1; replace p_43E := p_43E.2
  have hz_owed := p_43E.1; replace p_43E := p_43E.2
  have hz_doorX := p_43E.1; replace p_43E := p_43E.2
  have hz_doorY := p_43E.1; replace p_43E := p_43E.2
  have hz_tape := p_43E.1; replace p_43E := p_43E.2
  have hz_born := p_43E.1; replace p_43E := p_43E.2
  have hz_kin := p_43E.1; replace p_43E := p_43E.2
  have hz_sum := p_43E.1; replace p_43E := p_43E.2
  have hz_filed := p_43E.1; replace p_43E := p_43E.2
  have hz_owedFrom := p_43E.1; replace p_43E := p_43E.2
  have hz_heard := p_43E.1; replace p_43E := p_43E.2
  have hz_ordered := p_43E.1; replace p_43E := p_43E.2
  have hz_goods := p_43E.1; replace p_43E := p_43E.2
  have hz_seized := p_43E.1; replace p_43E := p_43E.2
  have hz_served := p_43E.1; replace p_43E := p_43E.2
  have hz_earns := p_43E.1; replace p_43E := p_43E.2
  have hz_heads := p_43E.1; replace p_43E := p_43E.2
  have hz_payOf := p_43E.1; replace p_43E := p_43E.2
  have hz_payDay := p_43E.1; replace p_43E := p_43E.2
  have hz_paySum := p_43E.1; replace p_43E := p_43E.2
  have hz_payKnown := p_43E.1; replace p_43E := p_43E.2
  have hz_payStruck := p_43E.1; replace p_43E := p_43E.2
  have hca := p_43E
  have hT : hx_T T_tb L_40 h_41 := hT
  have hs : hx_S T_tb [(10, 14), (10, 16), (10, 18), (50, 0), (51, 0), (52, 0), (55, 0), (57, 0), (126, 2), (126, 3), (126, 4), (126, 5), (126, 6), (126, 12), (126, 15), (126, 17), (126, 19), (126, 21), (126, 22), (126, 23), (126, 24), (126, 25), (126, 26), (126, 27), (126, 28), (126, 30), (126, 31), (126, 32), (126, 33), (126, 34), (126, 35), (126, 37), (126, 38), (126, 39), (126, 40), (126, 41), (126, 42), (126, 43), (126, 44), (126, 45), (126, 46), (126, 47), (126, 48), (126, 49), (126, 50), (126, 51), (126, 52), (126, 53), (126, 54), (126, 55), (126, 56), (126, 58), (126, 60), (126, 61), (126, 62), (126, 63), (126, 64), (126, 65), (126, 66), (126, 73), (126, 74), (126, 76), (126, 77), (126, 78), (126, 79), (126, 80), (126, 81), (126, 82), (126, 85), (126, 88), (126, 89), (126, 91), (126, 93), (126, 94), (126, 97)] (hx_X (L_4 ++ [q_38]) q_38) h_37 L_40 h_41 := hs
  have gq_2 := hx_gX gq_2 (gq_2.ne gq_38 ?o10)
  case o10 => decide
  have gq_22 := hx_gX gq_22 (gq_22.ne gq_38 ?o11)
  case o11 => decide
  have gq_23 := hx_gX gq_23 (gq_23.ne gq_38 ?o12)
  case o12 => decide
  have gq_24 := hx_gX gq_24 (gq_24.ne gq_38 ?o13)
  case o13 => decide
  have gq_25 := hx_gX gq_25 (gq_25.ne gq_38 ?o14)
  case o14 => decide
  have gq_26 := hx_gX gq_26 (gq_26.ne gq_38 ?o15)
  case o15 => decide
  have gq_27 := hx_gX gq_27 (gq_27.ne gq_38 ?o16)
  case o16 => decide
  have gq_28 := hx_gX gq_28 (gq_28.ne gq_38 ?o17)
  case o17 => decide
  have gq_29 := hx_gX gq_29 (gq_29.ne gq_38 ?o18)
  case o18 => decide
  have gq_30 := hx_gX gq_30 (gq_30.ne gq_38 ?o19)
  case o19 => decide
  have gq_31 := hx_gX gq_31 (gq_31.ne gq_38 ?o20)
  case o20 => decide
  have gq_32 := hx_gX gq_32 (gq_32.ne gq_38 ?o21)
  case o21 => decide
  have gq_33 := hx_gX gq_33 (gq_33.ne gq_38 ?o22)
  case o22 => decide
  have gq_34 := hx_gX gq_34 (gq_34.ne gq_38 ?o23)
  case o23 => decide
  have gq_35 := hx_gX gq_35 (gq_35.ne gq_38 ?o24)
  case o24 => decide
  have gq_36 := hx_gX gq_36 (gq_36.ne gq_38 ?o25)
  case o25 => decide
  replace po_8 := (hs.o gq_2 trivial rfl).1.trans po_8
  replace po_9 := (hs.o gq_2 trivial rfl).1.trans po_9
  replace po_10 := (hs.o gq_2 trivial rfl).1.trans po_10
  replace po_11 := (hs.o gq_2 trivial rfl).1.trans po_11
  replace po_12 := (hs.o gq_2 trivial rfl).1.trans po_12
  replace fq_22 := (hs.o gq_2 trivial rfl).2.trans fq_22
  replace po_13B := (hs.o gq_22 trivial rfl).1.trans po_13B
  replace po_13 := (hs.o gq_22 trivial rfl).1.trans po_13
  replace fq_23 := (hs.o gq_22 trivial rfl).2.trans fq_23
  replace fq_24 := (hs.o gq_2 trivial rfl).2.trans fq_24
  replace po_14 := (hs.o gq_24 trivial rfl).1.trans po_14
  replace fq_25 := (hs.o gq_2 trivial rfl).2.trans fq_25
  replace fq_26 := (hs.o gq_2 trivial rfl).2.trans fq_26
  replace po_17 := (hs.o gq_2 trivial rfl).1.trans po_17
  replace fq_27 := (hs.o gq_2 trivial rfl).2.trans fq_27
  replace fq_28 := (hs.o gq_2 trivial rfl).2.trans fq_28
  replace fq_29 := (hs.o gq_2 trivial rfl).2.trans fq_29
  replace fq_30 := (hs.o gq_2 trivial rfl).2.trans fq_30
  replace po_20 := (hs.o gq_30 trivial rfl).1.trans po_20
  replace fq_31 := (hs.o gq_30 trivial rfl).2.trans fq_31
  replace fq_32 := (hs.o gq_30 trivial rfl).2.trans fq_32
  replace fq_33 := (hs.o gq_30 trivial rfl).2.trans fq_33
  replace fq_34 := (hs.o gq_30 trivial rfl).2.trans fq_34
  replace fq_35 := (hs.o gq_30 trivial rfl).2.trans fq_35
  replace fq_36 := (hs.o gq_2 trivial rfl).2.trans fq_36
  replace po_21 := (hs.o gq_36 trivial rfl).1.trans po_21
  replace hRAs : hv_RA h_41 q_29 q_28 0 (fun _ => hv_A0) := hv_RA_X hs hTo gq_29 gq_28 gq_38 tt_43 tt_0 rfl rfl rfl rfl rfl rfl ?o26 ?o27 hRAs
  case o26 => decide
  case o27 => decide
  replace zq_23 : ∀ j, h_41.2.1 q_23 j = 0 ∧ h_41.2.2 q_23 j = none := fun j => ⟨(hs.a gq_23 rfl j).1.trans (zq_23 j).1, (hs.a gq_23 rfl j).2.trans (zq_23 j).2⟩
  replace po_15 : ∀ j, h_41.2.1 q_25 j = 0 ∧ h_41.2.2 q_25 j = none := fun j => ⟨(hs.a gq_25 rfl j).1.trans (po_15 j).1, (hs.a gq_25 rfl j).2.trans (po_15 j).2⟩
  replace po_16 : ∀ j, h_41.2.1 q_26 j = 0 ∧ h_41.2.2 q_26 j = none := fun j => ⟨(hs.a gq_26 rfl j).1.trans (po_16 j).1, (hs.a gq_26 rfl j).2.trans (po_16 j).2⟩
  replace po_18 : ∀ j, h_41.2.1 q_27 j = 0 ∧ h_41.2.2 q_27 j = none := fun j => ⟨(hs.a gq_27 rfl j).1.trans (po_18 j).1, (hs.a gq_27 rfl j).2.trans (po_18 j).2⟩
  replace zq_31 : ∀ j, h_41.2.1 q_31 j = 0 ∧ h_41.2.2 q_31 j = none := fun j => ⟨(hs.a gq_31 rfl j).1.trans (zq_31 j).1, (hs.a gq_31 rfl j).2.trans (zq_31 j).2⟩
  replace zq_32 : ∀ j, h_41.2.1 q_32 j = 0 ∧ h_41.2.2 q_32 j = none := fun j => ⟨(hs.a gq_32 rfl j).1.trans (zq_32 j).1, (hs.a gq_32 rfl j).2.trans (zq_32 j).2⟩
  replace zq_33 : ∀ j, h_41.2.1 q_33 j = 0 ∧ h_41.2.2 q_33 j = none := fun j => ⟨(hs.a gq_33 rfl j).1.trans (zq_33 j).1, (hs.a gq_33 rfl j).2.trans (zq_33 j).2⟩
  replace zq_34 : ∀ j, h_41.2.1 q_34 j = 0 ∧ h_41.2.2 q_34 j = none := fun j => ⟨(hs.a gq_34 rfl j).1.trans (zq_34 j).1, (hs.a gq_34 rfl j).2.trans (zq_34 j).2⟩
  replace zq_35 : ∀ j, h_41.2.1 q_35 j = 0 ∧ h_41.2.2 q_35 j = none := fun j => ⟨(hs.a gq_35 rfl j).1.trans (zq_35 j).1, (hs.a gq_35 rfl j).2.trans (zq_35 j).2⟩
  replace gq_2 := gq_2.S hs
  replace gq_22 := gq_22.S hs
  replace gq_23 := gq_23.S hs
  replace gq_24 := gq_24.S hs
  replace gq_25 := gq_25.S hs
  replace gq_26 := gq_26.S hs
  replace gq_27 := gq_27.S hs
  replace gq_28 := gq_28.S hs
  replace gq_29 := gq_29.S hs
  replace gq_30 := gq_30.S hs
  replace gq_31 := gq_31.S hs
  replace gq_32 := gq_32.S hs
  replace gq_33 := gq_33.S hs
  replace gq_34 := gq_34.S hs
  replace gq_35 := gq_35.S hs
  replace gq_36 := gq_36.S hs
  have gq_38 : hx_g L_40 h_41 q_38 10 := gN
  have z10_0 : h_41.2.1 q_38 0 = 0 := z10_0
  have z10_1 : h_41.2.1 q_38 1 = 0 := z10_1
  have z10_2 : h_41.2.1 q_38 36 = 0 := z10_2
  have z10_3 : h_41.2.1 q_38 57 = 0 := z10_3
  have z10_4 : h_41.2.1 q_38 7 = 0 := z10_4
  have z10_5 : h_41.2.1 q_38 20 = 0 := z10_5
  have z10_6 : h_41.2.1 q_38 29 = 0 := z10_6
  have z10_7 : h_41.2.1 q_38 59 = 0 := z10_7
  have z10_8 : h_41.2.1 q_38 72 = 0 := z10_8
  have z10_9 : h_41.2.1 q_38 83 = 0 := z10_9
  have z10_10 : h_41.2.1 q_38 84 = 0 := z10_10
  have z10_11 : h_41.2.1 q_38 90 = 0 := z10_11
  have z10_12 : h_41.2.1 q_38 92 = 0 := z10_12
  have fk_words : h_41.2.2 q_38 19 = some k_words := fk_words
  have fk_rule : h_41.2.2 q_38 3 = some k_rule := fk_rule
  have fk_proofSteps : h_41.2.2 q_38 4 = some k_proofSteps := fk_proofSteps
  have fk_proof : h_41.2.2 q_38 5 = some k_proof := fk_proof
  have fk_tries : h_41.2.2 q_38 45 = some k_tries := fk_tries
  have fk_isDead : h_41.2.2 q_38 27 = some k_isDead := fk_isDead
  have fk_isJudge : h_41.2.2 q_38 28 = some k_isJudge := fk_isJudge
  have fk_found : h_41.2.2 q_38 46 = some k_found := fk_found
  have fk_list : h_41.2.2 q_38 91 = some k_list := fk_list
  have fk_judged : h_41.2.2 q_38 51 = some k_judged := fk_judged
  have fk_weekly : h_41.2.2 q_38 54 = some k_weekly := fk_weekly
  have fk_owed : h_41.2.2 q_38 55 = some k_owed := fk_owed
  have fk_doorX : h_41.2.2 q_38 24 = some k_doorX := fk_doorX
  have fk_doorY : h_41.2.2 q_38 25 = some k_doorY := fk_doorY
  have fk_tape : h_41.2.2 q_38 6 = some k_tape := fk_tape
  have fk_born : h_41.2.2 q_38 21 = some k_born := fk_born
  have fk_kin : h_41.2.2 q_38 26 = some k_kin := fk_kin
  have fk_sum : h_41.2.2 q_38 39 = some k_sum := fk_sum
  have fk_filed : h_41.2.2 q_38 43 = some k_filed := fk_filed
  have fk_owedFrom : h_41.2.2 q_38 40 = some k_owedFrom := fk_owedFrom
  have fk_heard : h_41.2.2 q_38 47 = some k_heard := fk_heard
  have fk_ordered : h_41.2.2 q_38 48 = some k_ordered := fk_ordered
  have fk_goods : h_41.2.2 q_38 56 = some k_goods := fk_goods
  have fk_seized : h_41.2.2 q_38 49 = some k_seized := fk_seized
  have fk_served : h_41.2.2 q_38 50 = some k_served := fk_served
  have fk_earns : h_41.2.2 q_38 22 = some k_earns := fk_earns
  have fk_heads : h_41.2.2 q_38 23 = some k_heads := fk_heads
  have fk_payOf : h_41.2.2 q_38 60 = some k_payOf := fk_payOf
  have fk_payDay : h_41.2.2 q_38 61 = some k_payDay := fk_payDay
  have fk_paySum : h_41.2.2 q_38 62 = some k_paySum := fk_paySum
  have fk_payKnown : h_41.2.2 q_38 63 = some k_payKnown := fk_payKnown
  have fk_payStruck : h_41.2.2 q_38 64 = some k_payStruck := fk_payStruck
  have fk_actDay : h_41.2.2 q_38 2 = some k_actDay := fk_actDay
  have hwd : hx_wd (h_41.2.1 k_words) := hwd
  have hwk : hx_WK (h_41.2.1 k_rule) 0 := hwk
  have hrp : hx_RP (h_41.2.1 k_proof) (h_41.2.1 k_proofSteps) 0 := hrp
  have htr : hx_TR (h_41.2.1 k_tries) 0 := fun j _ => by rw [hz_tries j]; decide
  have hca : hv_CA (h_41.2.1 k_actDay) (h_41.2.1 k_rule) (h_41.2.1 k_proofSteps) (h_41.2.1 k_proof) 0 (fun _ => hv_A0) := hca
  refine lv_astore_n (lv' := [(2, .ref q_38), (1, .ref q_2), (0, .ref b)]) hx hb dL_law_15 rfl hl ?o28 rfl (fun ls hl => ?_)
  case o28 => decide
  refine lv_iconst (v := 0) hx hb dL_law_16 ?o29 ?_
  case o29 => decide
  refine lv_istore_n (lv' := [(3, .int (0 : Int32)), (2, .ref q_38), (1, .ref q_2), (0, .ref b)]) hx hb dL_law_17 rfl hl ?o30 rfl (fun ls hl => ?_)
  case o30 => decide
  have h00 : (0 : Int32).toInt = 0 := ?o31
  case o31 => decide
  have hI : hx_IV 0 q_2 q_38 L_40 h_41 := ⟨hT, gq_2, gq_38, ⟨po_8.trans z10_0.symm, po_10.trans z10_5.symm, po_11.trans z10_2.symm, po_17.trans z10_4.symm, po_9.trans z10_1.symm, po_12.trans z10_3.symm, hx_ob fq_24 (po_14.trans z10_6.symm), hx_ob fq_22 (po_13.trans z10_11.symm), hx_ob fq_22 (po_13B.trans z10_12.symm), hx_ob fq_30 (po_20.trans z10_7.symm), hx_ob fq_25 ?o32, hx_ob fq_26 ?o33, (fun b a r hb _ _ => ?o34), (fun b a r hb _ _ => ?o35), (fun b a r hb _ _ => ?o36), (fun b a r hb _ _ => ?o37), (fun b a r hb _ _ => ?o38), (fun b a r hb _ _ => ?o39), (fun w q c hw hq _ => ?o40), (fun w q r hw hq hr => ?o41), (fun w a r hw _ _ => ?o42), (fun c q a hc _ _ => ?o43), (fun q r hq hr => ?o44), (fun q w a b c d e p hq hw ha hb hc hd he hp => ?o45), (fun c q a hc _ _ => ?o46), (fun q c a _ _ _ => hv_HL_0 ?o47), (fun a b _ _ => hv_HO_0 ?o48), (fun c a b d e f hc _ _ _ _ _ => ?o49), (fun c a hc _ => ?o50), hx_ob2 fq_25 fk_born (hx_col_0f po_15 hz_born), hx_ob2 fq_25 fk_kin (hx_col_0f po_15 hz_kin), hx_ob2 fq_26 fk_sum (hx_col_0f po_16 hz_sum), hx_ob2 fq_26 fk_owedFrom (hx_col_0f po_16 hz_owedFrom), hx_ob2 fq_26 fk_filed (hx_col_0f po_16 hz_filed), hx_ob2 fq_26 fk_heard (hx_col_0f po_16 hz_heard), hx_ob2 fq_26 fk_judged (hx_col_0f po_16 hz_judged), hx_ob2 fq_25 fk_earns (hx_col_0f po_15 hz_earns), hx_ob2 fq_25 fk_heads (hx_col_0f po_15 hz_heads), hx_ob2 fq_26 fk_ordered (hx_col_0f po_16 hz_ordered), hx_ob2 fq_26 fk_weekly (hx_col_0f po_16 hz_weekly), hx_ob2 fq_26 fk_owed (hx_col_0f po_16 hz_owed), hx_ob2 fq_26 fk_goods (hx_col_0f po_16 hz_goods), hx_ob2 fq_26 fk_seized (hx_col_0f po_16 hz_seized), hx_ob2 fq_26 fk_served (hx_col_0f po_16 hz_served), (fun p q r hp hq hr => ?o51), (fun p q r hp hq hr => ?o52), (fun p q r hp hq hr => ?o53), (fun p q r hp hq hr => ?o54), (fun p q r hp hq hr => ?o55), (fun p hp => ?o56), (fun p q r hp hq hr j hj => ?o57), hx_ob2 fq_25 fk_isDead (hx_col_0 po_15 hz_isDead), hx_ob2 fq_25 fk_isJudge (hx_col_0 po_15 hz_isJudge), hx_ob2 fq_25 fk_doorX (hx_col_0 po_15 hz_doorX), hx_ob2 fq_25 fk_doorY (hx_col_0 po_15 hz_doorY), hx_ob2 fq_26 fk_found (hx_col_0 po_16 hz_found), hx_ob2 fq_26 fk_tries (hx_col_0 po_16 hz_tries), trivial⟩, ⟨fun q _ => hx_pf0 po_9, fun q _ => hx_pf0 po_10, fun q _ => hx_pf0 po_11, fun q _ => hx_pf0 po_12, fun w q hw hq => ?o59⟩, ⟨hx_ob fk_words hwd, hx_ob fk_rule ?o60, hx_ob2 fk_proof fk_proofSteps ?o61, fun q _ => ?o62, fun q _ => ?o64, hx_ob fk_tries htr, fun q r _ _ => ?o65⟩⟩
  case o32 =>
    rw [po_10, h00]
    exact hx_num_0 po_15
  case o33 =>
    rw [po_11, h00]
    exact hx_num_0 po_16
  case o34 =>
    obtain rfl : q_24 = b := Option.some.inj (fq_24.symm.trans hb)
    exact hx_eqN_z po_14
  case o35 =>
    obtain rfl : q_24 = b := Option.some.inj (fq_24.symm.trans hb)
    exact hx_eqN_z po_14
  case o36 =>
    obtain rfl : q_24 = b := Option.some.inj (fq_24.symm.trans hb)
    exact hx_eqN_z po_14
  case o37 =>
    obtain rfl : q_24 = b := Option.some.inj (fq_24.symm.trans hb)
    exact hx_eqN_z po_14
  case o38 =>
    obtain rfl : q_24 = b := Option.some.inj (fq_24.symm.trans hb)
    exact hx_eqN_z po_14
  case o39 =>
    obtain rfl : q_24 = b := Option.some.inj (fq_24.symm.trans hb)
    exact hy_BD_z po_14
  case o40 =>
    obtain rfl : q_22 = w := Option.some.inj (fq_22.symm.trans hw)
    obtain rfl : q_23 = q := Option.some.inj (fq_23.symm.trans hq)
    exact hx_LQ_0 zq_23
  case o41 =>
    obtain rfl : q_22 = w := Option.some.inj (fq_22.symm.trans hw)
    obtain rfl : q_23 = q := Option.some.inj (fq_23.symm.trans hq)
    obtain rfl : k_list = r := Option.some.inj (fk_list.symm.trans hr)
    exact hx_col_0 zq_23 hz_list
  case o42 =>
    obtain rfl : q_22 = w := Option.some.inj (fq_22.symm.trans hw)
    exact hx_eqN_z po_13B
  case o43 =>
    obtain rfl : q_26 = c := Option.some.inj (fq_26.symm.trans hc)
    exact hw_DF_0 po_16
  case o44 =>
    obtain rfl : q_27 = q := Option.some.inj (fq_27.symm.trans hq)
    obtain rfl : k_tape = r := Option.some.inj (fk_tape.symm.trans hr)
    funext j
    rw [(po_18 j).1, hz_tape j]
  case o45 =>
    obtain rfl : q_29 = q := Option.some.inj (fq_29.symm.trans hq)
    obtain rfl : q_28 = w := Option.some.inj (fq_28.symm.trans hw)
    obtain rfl : k_actDay = a := Option.some.inj (fk_actDay.symm.trans ha)
    obtain rfl : k_rule = b := Option.some.inj (fk_rule.symm.trans hb)
    obtain rfl : k_proofSteps = c := Option.some.inj (fk_proofSteps.symm.trans hc)
    obtain rfl : k_proof = d := Option.some.inj (fk_proof.symm.trans hd)
    obtain rfl : q_26 = e := Option.some.inj (fq_26.symm.trans he)
    exact ⟨_, by rw [po_9, h00]; exact hRAs, by rw [po_9, h00]; exact hca, hv_AC_0 po_16, hv_AB_0⟩
  case o46 =>
    obtain rfl : q_26 = c := Option.some.inj (fq_26.symm.trans hc)
    exact hw_DF_0 po_16
  case o47 =>
    rw [po_12]
    exact h00
  case o48 =>
    rw [z10_3]
    exact h00
  case o49 =>
    obtain rfl : q_26 = c := Option.some.inj (fq_26.symm.trans hc)
    exact ⟨fun _ => 0, hv_FX_0 po_16, fun j hj => by rw [po_11, h00] at hj; exfalso; omega⟩
  case o50 =>
    obtain rfl : q_26 = c := Option.some.inj (fq_26.symm.trans hc)
    exact hv_FX_0 po_16
  case o51 =>
    obtain rfl : q_30 = p := Option.some.inj (fq_30.symm.trans hp)
    obtain rfl : q_31 = q := Option.some.inj (fq_31.symm.trans hq)
    obtain rfl : k_payOf = r := Option.some.inj (fk_payOf.symm.trans hr)
    funext j
    rw [(zq_31 j).1, hz_payOf j]
  case o52 =>
    obtain rfl : q_30 = p := Option.some.inj (fq_30.symm.trans hp)
    obtain rfl : q_32 = q := Option.some.inj (fq_32.symm.trans hq)
    obtain rfl : k_payDay = r := Option.some.inj (fk_payDay.symm.trans hr)
    funext j
    rw [(zq_32 j).1, hz_payDay j]
  case o53 =>
    obtain rfl : q_30 = p := Option.some.inj (fq_30.symm.trans hp)
    obtain rfl : q_33 = q := Option.some.inj (fq_33.symm.trans hq)
    obtain rfl : k_paySum = r := Option.some.inj (fk_paySum.symm.trans hr)
    funext j
    rw [(zq_33 j).1, hz_paySum j]
  case o54 =>
    obtain rfl : q_30 = p := Option.some.inj (fq_30.symm.trans hp)
    obtain rfl : q_34 = q := Option.some.inj (fq_34.symm.trans hq)
    obtain rfl : k_payKnown = r := Option.some.inj (fk_payKnown.symm.trans hr)
    funext j
    rw [(zq_34 j).1, hz_payKnown j]
  case o55 =>
    obtain rfl : q_30 = p := Option.some.inj (fq_30.symm.trans hp)
    obtain rfl : q_35 = q := Option.some.inj (fq_35.symm.trans hq)
    obtain rfl : k_payStruck = r := Option.some.inj (fk_payStruck.symm.trans hr)
    funext j
    rw [(zq_35 j).1, hz_payStruck j]
  case o56 =>
    obtain rfl : q_36 = p := Option.some.inj (fq_36.symm.trans hp)
    exact Or.inl ⟨by rw [z10_9]; exact h00, by rw [po_21]; decide⟩
  case o57 =>
    obtain rfl : q_36 = p := Option.some.inj (fq_36.symm.trans hp)
    rw [po_21] at hj
    exfalso
    have hm1 : (-1 : Int32).toInt = -1 := ?o58
    case o58 => decide
    omega
  case o59 =>
    obtain rfl : q_22 = w := Option.some.inj (fq_22.symm.trans hw)
    exact hx_pf0 po_13
  case o60 =>
    rw [z10_1, h00]
    exact hwk
  case o61 =>
    rw [z10_1, h00]
    exact hrp
  case o62 =>
    rw [z10_2, z10_1, h00]
    refine fun k h0 h1 => ?o63
    case o63 => omega
  case o64 =>
    rw [z10_3, z10_2]
    exact hx_hc00
  case o65 =>
    rw [z10_2, h00]
    refine fun c hc => ?o66
    case o66 =>
      exfalso
      omega
  refine W.widen (k := 112) (n := 26072) (Nat.le_of_ble_eq_true rfl) (Nat.le_of_ble_eq_true rfl) ?_
  have zi0 : (0 : Int32).toInt = 7 * 0 := ?o67
  case o67 => decide
  refine law_loop l hx hb hr hlocks hml hown hts hX hbl hbA hL dC dI dA b0 q_2 q_38 112 26072 (Nat.le_of_ble_eq_true rfl) (Nat.le_of_ble_eq_true rfl) hZ (LN + 1) 0 0 112 26072 L_40 h_41 H locs ls ?o68 zi0 ?o69 ?o70 ?o71 ?o72 hW hI hl
  case o68 => omega
  case o69 => omega
  case o70 => omega
  case o71 => omega
  case o72 => omega
end
section
-- ===== YOUR PART ENDS =====
set_option maxHeartbeats 4000000 in
theorem lw_walk (l : Launch) (hflags : l.flags = flags0) (b : Addr) (xs : List Int32) : MetFree l x (headSpec (Jvm.Cond.code x code maxLocals ret :: tables_1) room_1) (lw_P b xs) (fun _ _ _ _ _ => True) lw_Q := by
  refine MetFree.of_bodyS (code := code) (maxLocals := maxLocals) (ret := ret) (by decide) ?_ ?_
  · intro args s m h hn
    obtain ⟨meth, c, h1, h2, h3, h4, h5, h6, -, -⟩ := Cond.code_spec hn (atoms_spec (ws := Jvm.Cond.code x code maxLocals ret :: tables_1) h _ List.mem_cons_self)
    exact ⟨meth, c, h1, h2, h3, h4, h5, h6⟩
  · intro p e s m args below meth c s₁ B hml0 hP _
    obtain ⟨rfl, hx, hbd, hgv⟩ := hP
    obtain ⟨scr, harrAt, hlist, hof, hsmall⟩ := hx
    obtain ⟨hcb, hkn, -, -⟩ := State.arrayAt?_spec harrAt
    have hown : s.vm.findClass R_law = some m.cls := findClass_of_methodNamed B.named
    have hts0 : ∀ c ∈ (Jvm.Cond.code x code maxLocals ret :: tables_1), c.before #[Value.ref b] s = true := atoms_spec (ws := Jvm.Cond.code x code maxLocals ret :: tables_1) B.pre
    have hts : ∀ w ∈ lw_tbl, w.before #[Value.ref b] s = true := k2_hts_sels lw_privs (fun w hw => hts0 w (List.mem_cons_of_mem _ hw)) lw_privs_ok
    have hml : c.maxLocals = 4 := B.maxLocals_eq (hts0 _ List.mem_cons_self)
    have X₀ : Stand p l e room_1 s m #[Value.ref b] below meth c s₁ [] 0 0 := Stand.of_body B
    have hh0 : s₁.heap = s.heap := by rw [B.state]; rfl
    have hsz : scr.slots.size = xs.length := by rw [← Array.length_toList, hlist, List.length_map]
    have hval : ∀ j : Nat, j < xs.length → scr.slots[j]? = some (.int (xs.getD j 0)) := fun j hj => by
      rw [← Array.getElem?_toList, hlist]
      simp [hj]
    have hbl : b < s.heap.size := (Array.getElem?_eq_some_iff.mp hcb).1
    have hX : va_X b xs.length (fun j => xs.getD j 0) s s.heap := ⟨scr, hcb, hof, hkn, hsz, hval⟩
    have K : W p l e room_1 s m #[Value.ref b] below meth c s₁.heap [] 0 0 (lw_Z below #[Value.ref b] s) (entryFrame m ([Value.ref b] : List Value).toArray 4) := by
      rw [hh0]
      exact whole_start l hflags hbd ⟨B.exec, B.bytes, B.returns, hml, hown, hts, hX, hbl, B.notSynchronized, hgv⟩
    obtain ⟨t, a1, o, b1, b2, b3⟩ := K s₁ rfl X₀
    exact ⟨t, o, a1, b1, b2, b3⟩
theorem lw_pre_spec {args : Array Value} {s : State} (h : (Jvm.Cond.and given_1 narrow_1).before args s = true) (hr : rest_1_c.before args s = true) : ∃ (b : Addr) (xs : List Int32), lw_P b xs args s := by
  have hs := flat_of_before _ h
  have hq := flat_of_before _ hr
  have hc : (Cond.count 1).before args s = true := hs _ (by decide +kernel)
  have harr : (Cond.arrayOf (.arg 0) .int).before args s = true := hs _ (by decide +kernel)
  have hle : (Cond.le (.length (.arg 0)) (.int 3584)).before args s = true := hs _ (by decide +kernel)
  have hlen : (Cond.isInt (.length (.arg 0))).before args s = true := hq _ (by decide +kernel)
  have hall : (Cond.all (.arg 0) (.isInt (.elem (.arg 0) (.index 0)))).before args s = true := hq _ (by decide +kernel)
  obtain ⟨b, xs, hb, hx⟩ := State.ints_of_pre rfl harr hlen hall
  have hsm : xs.length < 2 ^ 31 := hx.choose_spec.2.2.2
  have hev : (Term.length (.arg 0)).eval args s none [] s = some (.int xs.length.toInt32) := hx.length_eval hb
  have hv := Cond.le_ints hev (show (Term.int 3584).eval args s none [] s = some (.int 3584) from rfl)
  have hd : xs.length.toInt32 ≤ 3584 := by
    simpa [Cond.before, Cond.holds, hv] using hle
  have hN : xs.length ≤ 3584 := (Int32.ofNat_le_ofNat hsm (by decide)).mp (show Int32.ofNat xs.length ≤ Int32.ofNat 3584 from hd)
  exact ⟨b, xs, Cond.one_arg hc (show args[0]? = some (.ref b) from hb), hx, hN, h⟩
theorem lw_comes (l : Launch) (hflags : l.flags = flags0) : Comes l x (Jvm.Cond.code x code maxLocals ret :: tables_1) room_1 (fun tb e args s => Calls_1 tb e args s ∧ rest_1 tb e args s ∧ Pre_1 tb e args s)
    (fun _ _ args s o t => lw_Q args s o t) := by
  intro p e ha hc hk s m args below hf hfit hheap happ hpre
  obtain ⟨b, xs, hP⟩ := lw_pre_spec hpre.2.2 hpre.2.1
  obtain ⟨k, o, h1, h2, h3, hQ⟩ := lw_walk l hflags b xs p e ha hc hk s m args below hf ((Spec.applies_iff_loose hf).mp happ).1 hP trivial
  exact ⟨k, o, h1, h2, h3, hQ⟩
theorem lw_frame {s t : State} {o : Outcome} {args : Array Value} (h : Framed s o t [] 600000 7302250) :
    Framed s o t (fieldLocs frame_1_writes args s ++ arrayLocs frame_1_arrays args s ++ staticLocs frame_1_statics s) 600000 7302250 := h
theorem lw_limb (L : Cond) (hL : ∀ (args : Array Value) (s t : State), L.after args s (.returned (some (.int 1))) t = true) :
    ArmFor flags0 classFile x code maxLocals ret World_1 tables_1 room_1 Calls_1 rest_1 Pre_1
      (fun tb e a s o t => postC L tb e a s o t ∧ Framed s o t (fieldLocs frame_1_writes a s ++ arrayLocs frame_1_arrays a s ++ staticLocs frame_1_statics s) 600000 7302250) := by
  intro l hflags _ _ p e ha hc hk s m args below hf hfit hheap happ hpre
  obtain ⟨k, o, h1, h2, h3, rfl, hF⟩ := lw_comes l hflags p e ha hc hk s m args below hf hfit hheap happ hpre
  exact ⟨k, _, h1, h2, h3, hL args s _, lw_frame hF⟩
end
