set_option maxHeartbeats 4000000 in
set_option maxRecDepth 100000 in
/-- THE LOOP of the law -/
theorem law_loop {p : Program} {e : Env} {s : State} {m : MethodId} {below : List Frame} {meth : Method} {c : Code} (l : Launch) {b LN : Nat} {xs : Nat → Int32} (hx : p.tables.exec = Jvm.exec) (hb : c.code = code) (hr : meth.sig.returnType = ret) (hlocks : meth.locks = false) (hml : c.maxLocals = 4) (hown : s.vm.findClass "SmallCourtLaw" = some m.cls) (hts : ∀ w ∈ hx_all, w.before #[Value.ref b] s = true) (hX : va_X b LN xs s s.heap) (hbl : b < s.heap.size) (hbA : ¬ s.heap.size ≤ b) (hLN : LN ≤ 3584) (dC : Nat → ClassId) (dI : Nat → Nat → Nat) (dA : Nat → ClassId) (b0 : hx_z) (ax am : Nat) (C0 S0 : Nat) (hC0 : C0 + 1536 ≤ 600000) (hS0 : S0 + 91648 ≤ 7302250) (hZ : hx_Xt (fun q : Nat => s.heap.size ≤ q) b0 s) : ∀ (n : Nat) (T1 : Int) (i : Int32) (CC SS : Nat) (L1 : List Nat) (hl1 : hx_h) (H : Heap) (locs : List Loc) (ls : Array Slot), 0 ≤ T1 → i.toInt = 7 * T1 → i.toInt ≤ LN → (CC : Int) ≤ C0 + 3 * T1 → (SS : Int) ≤ S0 + 179 * T1 → (LN : Int) < 7 * T1 + n → hx_W T_tb (P_ty dA) (dC, dI) vwCl (fun q : Nat => s.heap.size ≤ q) s.heap L1 hl1 s H locs → hx_IV T1 ax am L1 hl1 → lv_has ls 4 [(3, .int i), (2, .ref am), (1, .ref ax), (0, .ref b)] → W p l e room_1 s m #[Value.ref b] below meth c H locs CC SS (lw_Z below #[Value.ref b] s) (F0 m 18 ls []) := by
  intro n
  induction n with
  | zero => intro T1 i CC SS L1 hl1 H locs ls hT0 hi hiL hCC hSS hn; exfalso; omega
  | succ n ih =>
    intro T1 i CC SS L1 hl1 H locs ls hT0 hi hiL hCC hSS hn hW hI hl
    refine lv_iload_n hx hb dL_law_18 rfl (lv_at hl 0 rfl) ?_
    refine lv_aload_n hx hb dL_law_19 rfl (lv_at hl 3 rfl) ?_
    refine va_slen hx hb hX hbl hbA hW.2.2.2.1 dL_law_20 ?_
    refine lv_topi (fun x ex => ?_)
    have zx : x.toInt = (LN : Int) := by rw [ex]; exact nI_toInt (by omega)
    refine lv_bipush (v := 7) hx hb dL_law_21 (by decide) ?_
    refine lv_isub hx hb dL_law_23 ?_
    refine lv_topi (fun y ey => ?_)
    have zc_7 : (7 : Int32).toInt = 7 := by decide
    have zy : y.toInt = LN - 7 := by rw [ey]; exact i32_sub zx (by decide) (by omega) (by omega)
    refine hb_icmp_gt (zx := i.toInt) (zy := y.toInt) (tgt := 1385) hx hb rfl rfl dL_law_24 (by decide) (fun c1 => ?_) (fun c1 => ?_)
    · refine lv_iconst (v := 1) hx hb dL_law_1385 (by decide) ?_
      refine va_forget (fun q hq => hW.2.2.2.1.2.2 q hq) ?_
      refine W.widen (k := 600000) (n := 7302250) (by omega) (by omega) ?_
      exact lw_ret hx hb hr hlocks dL_law_1386
    · have hi7 : i.toInt + 7 ≤ LN := by omega
      refine lv_aload_n hx hb dL_law_27 rfl (lv_at hl 3 rfl) ?_
      refine lv_iload_n hx hb dL_law_28 rfl (lv_at hl 0 rfl) ?_
      refine va_sld hx hb hX hbl hbA hW.2.2.2.1 (vp_in_iff.mpr ⟨by omega, by omega⟩) dL_law_29 ?_
      refine lv_bipush (v := 31) hx hb dL_law_30 (by decide) ?_
      refine lv_iand hx hb dL_law_32 ?_
      refine lv_topi (fun k ek => ?_)
      have kk : ∀ (CC2 SS2 : Nat) (L2 : List Nat) (h2 : hx_h) (H2 : Heap) (locs2 : List Loc) (ls2 : Array Slot), CC2 ≤ CC + 3 → SS2 ≤ SS + 179 → hx_W T_tb (P_ty dA) (dC, dI) vwCl (fun q : Nat => s.heap.size ≤ q) s.heap L2 h2 s H2 locs2 → hx_IV (T1 + 1) ax am L2 h2 → lv_has ls2 4 [(3, .int i), (2, .ref am), (1, .ref ax), (0, .ref b)] → W p l e room_1 s m #[Value.ref b] below meth c H2 locs2 CC2 SS2 (lw_Z below #[Value.ref b] s) (F0 m 1379 ls2 []) := by
        intro CC2 SS2 L2 h2 H2 locs2 ls2 hc2 hs2 hW hI hl
        obtain ⟨i7, ei7⟩ : ∃ y : Int32, y = i + Int32.ofInt 7 := ⟨_, rfl⟩
        have zi7 : i7.toInt = i.toInt + 7 := by rw [ei7]; exact i32_add rfl (by decide) (by omega) (by omega)
        refine lv_iinc (v := i7) (lv' := [(3, .int i7), (2, .ref am), (1, .ref ax), (0, .ref b)]) hx hb dL_law_1379 hl (k := 0) rfl ei7.symm (by decide) rfl (fun ls hl => ?_)
        refine lv_goto (tgt := 18) hx hb dL_law_1382 (by decide) ?_
        exact ih (T1 + 1) i7 CC2 SS2 L2 h2 H2 locs2 ls (by omega) (by omega) (by omega) (by omega) (by omega) (by omega) hW hI hl
      rcases (show (k.toInt < 0 ∨ 30 < k.toInt) ∨ k.toInt = 0 ∨ k.toInt = 1 ∨ k.toInt = 2 ∨ k.toInt = 3 ∨ k.toInt = 4 ∨ k.toInt = 5 ∨ k.toInt = 6 ∨ k.toInt = 7 ∨ k.toInt = 8 ∨ k.toInt = 9 ∨ k.toInt = 10 ∨ k.toInt = 11 ∨ k.toInt = 12 ∨ k.toInt = 13 ∨ k.toInt = 14 ∨ k.toInt = 15 ∨ k.toInt = 16 ∨ k.toInt = 17 ∨ k.toInt = 18 ∨ k.toInt = 19 ∨ k.toInt = 20 ∨ k.toInt = 21 ∨ k.toInt = 22 ∨ k.toInt = 23 ∨ k.toInt = 24 ∨ k.toInt = 25 ∨ k.toInt = 26 ∨ k.toInt = 27 ∨ k.toInt = 28 ∨ k.toInt = 29 ∨ k.toInt = 30 from by omega) with ck | ck | ck | ck | ck | ck | ck | ck | ck | ck | ck | ck | ck | ck | ck | ck | ck | ck | ck | ck | ck | ck | ck | ck | ck | ck | ck | ck | ck | ck | ck | ck
      · refine lv_tableOut (tgt := 1379) hx hb dL_law_33 ck (by decide) ?_
        obtain ⟨i1, i2, i3, i4, i5, ⟨i6, i7, i8, i9, i10, i11, i12⟩⟩ := hI
        exact kk CC SS L1 hl1 H locs ls (by omega) (by omega) hW ⟨i1, i2, i3, i4, i5, i6, i7, i8, i9, i10, fun q hq => hx_TR_le (i11 q hq) (by omega), i12⟩ hl
      · obtain rfl : k = (0 : Int32) := Int32.toInt_inj.mp (ck.trans (by decide))
        refine lv_tableIn (off := 139) (tgt := 172) hx hb dL_law_33 (by decide) (by decide) rfl (by decide) ?_
        exact law_case_0 l hx hb hr hlocks hml hown hts hX hbl hbA hLN dC dI dA b0 ax am T1 hT0 (by omega) i (by omega) hi7 CC SS (by omega) (by omega) L1 hl1 H locs ls hW hZ hI hl (fun L2 h2 H2 locs2 ls2 => kk _ _ L2 h2 H2 locs2 ls2 (Nat.le_refl _) (Nat.le_refl _))
      · obtain rfl : k = (1 : Int32) := Int32.toInt_inj.mp (ck.trans (by decide))
        refine lv_tableIn (off := 162) (tgt := 195) hx hb dL_law_33 (by decide) (by decide) rfl (by decide) ?_
        exact law_case_1 l hx hb hr hlocks hml hown hts hX hbl hbA hLN dC dI dA b0 ax am T1 hT0 (by omega) i (by omega) hi7 CC SS (by omega) (by omega) L1 hl1 H locs ls hW hZ hI hl (fun L2 h2 H2 locs2 ls2 => kk _ _ L2 h2 H2 locs2 ls2 (Nat.le_refl _) (Nat.le_refl _))
      · obtain rfl : k = (2 : Int32) := Int32.toInt_inj.mp (ck.trans (by decide))
        refine lv_tableIn (off := 225) (tgt := 258) hx hb dL_law_33 (by decide) (by decide) rfl (by decide) ?_
        exact law_case_2 l hx hb hr hlocks hml hown hts hX hbl hbA hLN dC dI dA b0 ax am T1 hT0 (by omega) i (by omega) hi7 CC SS (by omega) (by omega) L1 hl1 H locs ls hW hZ hI hl (fun L2 h2 H2 locs2 ls2 => kk _ _ L2 h2 H2 locs2 ls2 (Nat.le_refl _) (Nat.le_refl _))
      · obtain rfl : k = (3 : Int32) := Int32.toInt_inj.mp (ck.trans (by decide))
        refine lv_tableIn (off := 248) (tgt := 281) hx hb dL_law_33 (by decide) (by decide) rfl (by decide) ?_
        exact law_case_3 l hx hb hr hlocks hml hown hts hX hbl hbA hLN dC dI dA b0 ax am T1 hT0 (by omega) i (by omega) hi7 CC SS (by omega) (by omega) L1 hl1 H locs ls hW hZ hI hl (fun L2 h2 H2 locs2 ls2 => kk _ _ L2 h2 H2 locs2 ls2 (Nat.le_refl _) (Nat.le_refl _))
      · obtain rfl : k = (4 : Int32) := Int32.toInt_inj.mp (ck.trans (by decide))
        refine lv_tableIn (off := 271) (tgt := 304) hx hb dL_law_33 (by decide) (by decide) rfl (by decide) ?_
        exact law_case_4 l hx hb hr hlocks hml hown hts hX hbl hbA hLN dC dI dA b0 ax am T1 hT0 (by omega) i (by omega) hi7 CC SS (by omega) (by omega) L1 hl1 H locs ls hW hZ hI hl (fun L2 h2 H2 locs2 ls2 => kk _ _ L2 h2 H2 locs2 ls2 (Nat.le_refl _) (Nat.le_refl _))
      · obtain rfl : k = (5 : Int32) := Int32.toInt_inj.mp (ck.trans (by decide))
        refine lv_tableIn (off := 304) (tgt := 337) hx hb dL_law_33 (by decide) (by decide) rfl (by decide) ?_
        exact law_case_5 l hx hb hr hlocks hml hown hts hX hbl hbA hLN dC dI dA b0 ax am T1 hT0 (by omega) i (by omega) hi7 CC SS (by omega) (by omega) L1 hl1 H locs ls hW hZ hI hl (fun L2 h2 H2 locs2 ls2 => kk _ _ L2 h2 H2 locs2 ls2 (Nat.le_refl _) (Nat.le_refl _))
      · obtain rfl : k = (6 : Int32) := Int32.toInt_inj.mp (ck.trans (by decide))
        refine lv_tableIn (off := 379) (tgt := 412) hx hb dL_law_33 (by decide) (by decide) rfl (by decide) ?_
        exact law_case_6 l hx hb hr hlocks hml hown hts hX hbl hbA hLN dC dI dA b0 ax am T1 hT0 (by omega) i (by omega) hi7 CC SS (by omega) (by omega) L1 hl1 H locs ls hW hZ hI hl (fun L2 h2 H2 locs2 ls2 => kk _ _ L2 h2 H2 locs2 ls2 (Nat.le_refl _) (Nat.le_refl _))
      · obtain rfl : k = (7 : Int32) := Int32.toInt_inj.mp (ck.trans (by decide))
        refine lv_tableIn (off := 442) (tgt := 475) hx hb dL_law_33 (by decide) (by decide) rfl (by decide) ?_
        exact law_case_7 l hx hb hr hlocks hml hown hts hX hbl hbA hLN dC dI dA b0 ax am T1 hT0 (by omega) i (by omega) hi7 CC SS (by omega) (by omega) L1 hl1 H locs ls hW hZ hI hl (fun L2 h2 H2 locs2 ls2 => kk _ _ L2 h2 H2 locs2 ls2 (Nat.le_refl _) (Nat.le_refl _))
      · obtain rfl : k = (8 : Int32) := Int32.toInt_inj.mp (ck.trans (by decide))
        refine lv_tableIn (off := 465) (tgt := 498) hx hb dL_law_33 (by decide) (by decide) rfl (by decide) ?_
        exact law_case_8 l hx hb hr hlocks hml hown hts hX hbl hbA hLN dC dI dA b0 ax am T1 hT0 (by omega) i (by omega) hi7 CC SS (by omega) (by omega) L1 hl1 H locs ls hW hZ hI hl (fun L2 h2 H2 locs2 ls2 => kk _ _ L2 h2 H2 locs2 ls2 (Nat.le_refl _) (Nat.le_refl _))
      · obtain rfl : k = (9 : Int32) := Int32.toInt_inj.mp (ck.trans (by decide))
        refine lv_tableIn (off := 514) (tgt := 547) hx hb dL_law_33 (by decide) (by decide) rfl (by decide) ?_
        exact law_case_9 l hx hb hr hlocks hml hown hts hX hbl hbA hLN dC dI dA b0 ax am T1 hT0 (by omega) i (by omega) hi7 CC SS (by omega) (by omega) L1 hl1 H locs ls hW hZ hI hl (fun L2 h2 H2 locs2 ls2 => kk _ _ L2 h2 H2 locs2 ls2 (Nat.le_refl _) (Nat.le_refl _))
      · obtain rfl : k = (10 : Int32) := Int32.toInt_inj.mp (ck.trans (by decide))
        refine lv_tableIn (off := 577) (tgt := 610) hx hb dL_law_33 (by decide) (by decide) rfl (by decide) ?_
        exact law_case_10 l hx hb hr hlocks hml hown hts hX hbl hbA hLN dC dI dA b0 ax am T1 hT0 (by omega) i (by omega) hi7 CC SS (by omega) (by omega) L1 hl1 H locs ls hW hZ hI hl (fun L2 h2 H2 locs2 ls2 => kk _ _ L2 h2 H2 locs2 ls2 (Nat.le_refl _) (Nat.le_refl _))
      · obtain rfl : k = (11 : Int32) := Int32.toInt_inj.mp (ck.trans (by decide))
        refine lv_tableIn (off := 630) (tgt := 663) hx hb dL_law_33 (by decide) (by decide) rfl (by decide) ?_
        exact law_case_11 l hx hb hr hlocks hml hown hts hX hbl hbA hLN dC dI dA b0 ax am T1 hT0 (by omega) i (by omega) hi7 CC SS (by omega) (by omega) L1 hl1 H locs ls hW hZ hI hl (fun L2 h2 H2 locs2 ls2 => kk _ _ L2 h2 H2 locs2 ls2 (Nat.le_refl _) (Nat.le_refl _))
      · obtain rfl : k = (12 : Int32) := Int32.toInt_inj.mp (ck.trans (by decide))
        refine lv_tableIn (off := 721) (tgt := 754) hx hb dL_law_33 (by decide) (by decide) rfl (by decide) ?_
        exact law_case_12 l hx hb hr hlocks hml hown hts hX hbl hbA hLN dC dI dA b0 ax am T1 hT0 (by omega) i (by omega) hi7 CC SS (by omega) (by omega) L1 hl1 H locs ls hW hZ hI hl (fun L2 h2 H2 locs2 ls2 => kk _ _ L2 h2 H2 locs2 ls2 (Nat.le_refl _) (Nat.le_refl _))
      · obtain rfl : k = (13 : Int32) := Int32.toInt_inj.mp (ck.trans (by decide))
        refine lv_tableIn (off := 770) (tgt := 803) hx hb dL_law_33 (by decide) (by decide) rfl (by decide) ?_
        exact law_case_13 l hx hb hr hlocks hml hown hts hX hbl hbA hLN dC dI dA b0 ax am T1 hT0 (by omega) i (by omega) hi7 CC SS (by omega) (by omega) L1 hl1 H locs ls hW hZ hI hl (fun L2 h2 H2 locs2 ls2 => kk _ _ L2 h2 H2 locs2 ls2 (Nat.le_refl _) (Nat.le_refl _))
      · obtain rfl : k = (14 : Int32) := Int32.toInt_inj.mp (ck.trans (by decide))
        refine lv_tableIn (off := 855) (tgt := 888) hx hb dL_law_33 (by decide) (by decide) rfl (by decide) ?_
        exact law_case_14 l hx hb hr hlocks hml hown hts hX hbl hbA hLN dC dI dA b0 ax am T1 hT0 (by omega) i (by omega) hi7 CC SS (by omega) (by omega) L1 hl1 H locs ls hW hZ hI hl (fun L2 h2 H2 locs2 ls2 => kk _ _ L2 h2 H2 locs2 ls2 (Nat.le_refl _) (Nat.le_refl _))
      · obtain rfl : k = (15 : Int32) := Int32.toInt_inj.mp (ck.trans (by decide))
        refine lv_tableIn (off := 888) (tgt := 921) hx hb dL_law_33 (by decide) (by decide) rfl (by decide) ?_
        exact law_case_15 l hx hb hr hlocks hml hown hts hX hbl hbA hLN dC dI dA b0 ax am T1 hT0 (by omega) i (by omega) hi7 CC SS (by omega) (by omega) L1 hl1 H locs ls hW hZ hI hl (fun L2 h2 H2 locs2 ls2 => kk _ _ L2 h2 H2 locs2 ls2 (Nat.le_refl _) (Nat.le_refl _))
      · obtain rfl : k = (16 : Int32) := Int32.toInt_inj.mp (ck.trans (by decide))
        refine lv_tableIn (off := 931) (tgt := 964) hx hb dL_law_33 (by decide) (by decide) rfl (by decide) ?_
        exact law_case_16 l hx hb hr hlocks hml hown hts hX hbl hbA hLN dC dI dA b0 ax am T1 hT0 (by omega) i (by omega) hi7 CC SS (by omega) (by omega) L1 hl1 H locs ls hW hZ hI hl (fun L2 h2 H2 locs2 ls2 => kk _ _ L2 h2 H2 locs2 ls2 (Nat.le_refl _) (Nat.le_refl _))
      · obtain rfl : k = (17 : Int32) := Int32.toInt_inj.mp (ck.trans (by decide))
        refine lv_tableIn (off := 954) (tgt := 987) hx hb dL_law_33 (by decide) (by decide) rfl (by decide) ?_
        exact law_case_17 l hx hb hr hlocks hml hown hts hX hbl hbA hLN dC dI dA b0 ax am T1 hT0 (by omega) i (by omega) hi7 CC SS (by omega) (by omega) L1 hl1 H locs ls hW hZ hI hl (fun L2 h2 H2 locs2 ls2 => kk _ _ L2 h2 H2 locs2 ls2 (Nat.le_refl _) (Nat.le_refl _))
      · obtain rfl : k = (18 : Int32) := Int32.toInt_inj.mp (ck.trans (by decide))
        refine lv_tableIn (off := 987) (tgt := 1020) hx hb dL_law_33 (by decide) (by decide) rfl (by decide) ?_
        exact law_case_18 l hx hb hr hlocks hml hown hts hX hbl hbA hLN dC dI dA b0 ax am T1 hT0 (by omega) i (by omega) hi7 CC SS (by omega) (by omega) L1 hl1 H locs ls hW hZ hI hl (fun L2 h2 H2 locs2 ls2 => kk _ _ L2 h2 H2 locs2 ls2 (Nat.le_refl _) (Nat.le_refl _))
      · obtain rfl : k = (19 : Int32) := Int32.toInt_inj.mp (ck.trans (by decide))
        refine lv_tableIn (off := 1010) (tgt := 1043) hx hb dL_law_33 (by decide) (by decide) rfl (by decide) ?_
        exact law_case_19 l hx hb hr hlocks hml hown hts hX hbl hbA hLN dC dI dA b0 ax am T1 hT0 (by omega) i (by omega) hi7 CC SS (by omega) (by omega) L1 hl1 H locs ls hW hZ hI hl (fun L2 h2 H2 locs2 ls2 => kk _ _ L2 h2 H2 locs2 ls2 (Nat.le_refl _) (Nat.le_refl _))
      · obtain rfl : k = (20 : Int32) := Int32.toInt_inj.mp (ck.trans (by decide))
        refine lv_tableIn (off := 1043) (tgt := 1076) hx hb dL_law_33 (by decide) (by decide) rfl (by decide) ?_
        exact law_case_20 l hx hb hr hlocks hml hown hts hX hbl hbA hLN dC dI dA b0 ax am T1 hT0 (by omega) i (by omega) hi7 CC SS (by omega) (by omega) L1 hl1 H locs ls hW hZ hI hl (fun L2 h2 H2 locs2 ls2 => kk _ _ L2 h2 H2 locs2 ls2 (Nat.le_refl _) (Nat.le_refl _))
      · obtain rfl : k = (21 : Int32) := Int32.toInt_inj.mp (ck.trans (by decide))
        refine lv_tableIn (off := 1096) (tgt := 1129) hx hb dL_law_33 (by decide) (by decide) rfl (by decide) ?_
        exact law_case_21 l hx hb hr hlocks hml hown hts hX hbl hbA hLN dC dI dA b0 ax am T1 hT0 (by omega) i (by omega) hi7 CC SS (by omega) (by omega) L1 hl1 H locs ls hW hZ hI hl (fun L2 h2 H2 locs2 ls2 => kk _ _ L2 h2 H2 locs2 ls2 (Nat.le_refl _) (Nat.le_refl _))
      · obtain rfl : k = (22 : Int32) := Int32.toInt_inj.mp (ck.trans (by decide))
        refine lv_tableIn (off := 1129) (tgt := 1162) hx hb dL_law_33 (by decide) (by decide) rfl (by decide) ?_
        exact law_case_22 l hx hb hr hlocks hml hown hts hX hbl hbA hLN dC dI dA b0 ax am T1 hT0 (by omega) i (by omega) hi7 CC SS (by omega) (by omega) L1 hl1 H locs ls hW hZ hI hl (fun L2 h2 H2 locs2 ls2 => kk _ _ L2 h2 H2 locs2 ls2 (Nat.le_refl _) (Nat.le_refl _))
      · obtain rfl : k = (23 : Int32) := Int32.toInt_inj.mp (ck.trans (by decide))
        refine lv_tableIn (off := 1162) (tgt := 1195) hx hb dL_law_33 (by decide) (by decide) rfl (by decide) ?_
        exact law_case_23 l hx hb hr hlocks hml hown hts hX hbl hbA hLN dC dI dA b0 ax am T1 hT0 (by omega) i (by omega) hi7 CC SS (by omega) (by omega) L1 hl1 H locs ls hW hZ hI hl (fun L2 h2 H2 locs2 ls2 => kk _ _ L2 h2 H2 locs2 ls2 (Nat.le_refl _) (Nat.le_refl _))
      · obtain rfl : k = (24 : Int32) := Int32.toInt_inj.mp (ck.trans (by decide))
        refine lv_tableIn (off := 1175) (tgt := 1208) hx hb dL_law_33 (by decide) (by decide) rfl (by decide) ?_
        exact law_case_24 l hx hb hr hlocks hml hown hts hX hbl hbA hLN dC dI dA b0 ax am T1 hT0 (by omega) i (by omega) hi7 CC SS (by omega) (by omega) L1 hl1 H locs ls hW hZ hI hl (fun L2 h2 H2 locs2 ls2 => kk _ _ L2 h2 H2 locs2 ls2 (Nat.le_refl _) (Nat.le_refl _))
      · obtain rfl : k = (25 : Int32) := Int32.toInt_inj.mp (ck.trans (by decide))
        refine lv_tableIn (off := 1198) (tgt := 1231) hx hb dL_law_33 (by decide) (by decide) rfl (by decide) ?_
        exact law_case_25 l hx hb hr hlocks hml hown hts hX hbl hbA hLN dC dI dA b0 ax am T1 hT0 (by omega) i (by omega) hi7 CC SS (by omega) (by omega) L1 hl1 H locs ls hW hZ hI hl (fun L2 h2 H2 locs2 ls2 => kk _ _ L2 h2 H2 locs2 ls2 (Nat.le_refl _) (Nat.le_refl _))
      · obtain rfl : k = (26 : Int32) := Int32.toInt_inj.mp (ck.trans (by decide))
        refine lv_tableIn (off := 1221) (tgt := 1254) hx hb dL_law_33 (by decide) (by decide) rfl (by decide) ?_
        exact law_case_26 l hx hb hr hlocks hml hown hts hX hbl hbA hLN dC dI dA b0 ax am T1 hT0 (by omega) i (by omega) hi7 CC SS (by omega) (by omega) L1 hl1 H locs ls hW hZ hI hl (fun L2 h2 H2 locs2 ls2 => kk _ _ L2 h2 H2 locs2 ls2 (Nat.le_refl _) (Nat.le_refl _))
      · obtain rfl : k = (27 : Int32) := Int32.toInt_inj.mp (ck.trans (by decide))
        refine lv_tableIn (off := 1234) (tgt := 1267) hx hb dL_law_33 (by decide) (by decide) rfl (by decide) ?_
        exact law_case_27 l hx hb hr hlocks hml hown hts hX hbl hbA hLN dC dI dA b0 ax am T1 hT0 (by omega) i (by omega) hi7 CC SS (by omega) (by omega) L1 hl1 H locs ls hW hZ hI hl (fun L2 h2 H2 locs2 ls2 => kk _ _ L2 h2 H2 locs2 ls2 (Nat.le_refl _) (Nat.le_refl _))
      · obtain rfl : k = (28 : Int32) := Int32.toInt_inj.mp (ck.trans (by decide))
        refine lv_tableIn (off := 1257) (tgt := 1290) hx hb dL_law_33 (by decide) (by decide) rfl (by decide) ?_
        exact law_case_28 l hx hb hr hlocks hml hown hts hX hbl hbA hLN dC dI dA b0 ax am T1 hT0 (by omega) i (by omega) hi7 CC SS (by omega) (by omega) L1 hl1 H locs ls hW hZ hI hl (fun L2 h2 H2 locs2 ls2 => kk _ _ L2 h2 H2 locs2 ls2 (Nat.le_refl _) (Nat.le_refl _))
      · obtain rfl : k = (29 : Int32) := Int32.toInt_inj.mp (ck.trans (by decide))
        refine lv_tableIn (off := 1290) (tgt := 1323) hx hb dL_law_33 (by decide) (by decide) rfl (by decide) ?_
        exact law_case_29 l hx hb hr hlocks hml hown hts hX hbl hbA hLN dC dI dA b0 ax am T1 hT0 (by omega) i (by omega) hi7 CC SS (by omega) (by omega) L1 hl1 H locs ls hW hZ hI hl (fun L2 h2 H2 locs2 ls2 => kk _ _ L2 h2 H2 locs2 ls2 (Nat.le_refl _) (Nat.le_refl _))
      · obtain rfl : k = (30 : Int32) := Int32.toInt_inj.mp (ck.trans (by decide))
        refine lv_tableIn (off := 1323) (tgt := 1356) hx hb dL_law_33 (by decide) (by decide) rfl (by decide) ?_
        exact law_case_30 l hx hb hr hlocks hml hown hts hX hbl hbA hLN dC dI dA b0 ax am T1 hT0 (by omega) i (by omega) hi7 CC SS (by omega) (by omega) L1 hl1 H locs ls hW hZ hI hl (fun L2 h2 H2 locs2 ls2 => kk _ _ L2 h2 H2 locs2 ls2 (Nat.le_refl _) (Nat.le_refl _))
