section
set_option maxHeartbeats 4000000 in
set_option maxRecDepth 100000 in
theorem t_X9_ringNeeds_v (l : Launch) (dC : Nat → ClassId) (dI : Nat → Nat → Nat) (dA : Nat → ClassId) (L : List Nat) (h : hx_h) (sz : Nat) (x : Nat) (hT : hx_T T_tb L h) (gx : hx_g L h x 9) (qp : Nat) (gqp : hx_g L h qp 44) (f_x_7 : h.2.2 x 7 = some qp) (qc : Nat) (gqc : hx_g L h qc 45) (f_x_10 : h.2.2 x 10 = some qc) (qri : Nat) (gqri : hx_g L h qri 7) (f_x_18 : h.2.2 x 18 = some qri) (qbe : Nat) (gqbe : hx_g L h qbe 38) (f_qri_7 : h.2.2 qri 7 = some qbe) (qrs : Nat) (gqrs : hx_g L h qrs 48) (f_x_16 : h.2.2 x 16 = some qrs) (bef : Nat → Int32) (af_qbe : h.2.1 qbe = bef) (rsf : Nat → Int32) (af_qrs : h.2.1 qrs = rsf) (cn0 : Int32) (f_x_11 : h.2.1 x 11 = cn0) (pn0 : Int32) (f_x_8 : h.2.1 x 8 = pn0) (bs0 : Int32) (f_qri_1 : h.2.1 qri 1 = bs0) (bl0 : Int32) (f_qri_2 : h.2.1 qri 2 = bl0) (nu_qp : hx_num 40 h qp 0 (pn0.toInt)) (nu_qc : hx_num 100 h qc 0 (cn0.toInt)) (agf byf : Nat → Int32) (hDF : hw_DF h qc qp 2 agf cn0.toInt) (hDP : hw_DF h qc qp 1 byf cn0.toInt) (rr : Nat → Int) (hrs : ∀ c : Nat, (c : Int) < cn0.toInt → (rsf c).toInt = rr c) (hrb : ∀ c : Nat, (c : Int) < cn0.toInt → 0 ≤ rr c ∧ rr c ≤ 609999) (g : Nat → Int) (hbe : ∀ i : Nat, (i : Int) < bs0.toInt → (bef i).toInt = g i) (hbl : 1 ≤ bl0.toInt) (pf_x_8 : ∀ j : Nat, (j : Int) < (h.2.1 x 8).toInt → h.2.2 qp j ≠ none) (pf_x_11 : ∀ j : Nat, (j : Int) < (h.2.1 x 11).toInt → h.2.2 qc j ≠ none) : Met l yX9_ringNeeds (Cond.code yX9_ringNeeds cX9_ringNeeds 5 (some .int) :: hx_all) ({ frames := 2, cells := 0, slots := 0, locals := 43 }) (va_Pc [.ref x] (hx_B T_tb (P_ty dA) (dC, dI) vwCl L h sz)) (va_Qi (fun (r : Int32) (u : List Nat × hx_h) => (r.toInt = hz_ne rr agf byf g bs0.toInt bl0.toInt cn0.toInt.toNat bs0.toInt.toNat ∧ (0 ≤ r.toInt ∧ r.toInt ≤ 400)) ∧ hx_T T_tb u.1 u.2 ∧ hx_S T_tb [] L h u.1 u.2) (hx_E T_tb (P_ty dA) (dC, dI) vwCl (hx_A L sz)) (hx_A L sz)) 0 0 (hx_A L sz) := by
  refine hx_met (lv := [(0, .ref x)]) (by decide +kernel) rfl (Nat.le_of_ble_eq_true rfl) rfl ?_
  intro p e s m below meth c hx hb hml hr hlk hts0 hown hin hsz hW ls hl
  have hts : ∀ w ∈ hx_all, w.before _ s = true := fun w hw => hts0 w (List.mem_cons_of_mem _ hw)
  have hown : s.vm.findClass "SmallCourt" = some m.cls := hown
  have hM : hx_S T_tb [] L h L h := hx_S.rf
  have b_cn0 := hT.gi gx tt_9 (k := 11) rfl
  rw [f_x_11] at b_cn0
  have b_cn0 : 0 ≤ cn0.toInt ∧ cn0.toInt ≤ 100 := b_cn0
  have b_pn0 := hT.gi gx tt_9 (k := 8) rfl
  rw [f_x_8] at b_pn0
  have b_pn0 : 0 ≤ pn0.toInt ∧ pn0.toInt ≤ 40 := b_pn0
  have b_bs0 := hT.gi gqri tt_7 (k := 1) rfl
  rw [f_qri_1] at b_bs0
  have b_bs0 : 0 ≤ bs0.toInt ∧ bs0.toInt ≤ 4 := b_bs0
  have b_bl0 := hT.gi gqri tt_7 (k := 2) rfl
  rw [f_qri_2] at b_bl0
  have b_bl0 : -2147483648 ≤ bl0.toInt ∧ bl0.toInt ≤ 2147483647 := b_bl0
  refine lv_iconst (v := 0) hx hb dX9_ringNeeds_0 ?o0 ?_
  case o0 => decide
  refine lv_istore_n (lv' := [(1, .int (0 : Int32)), (0, .ref x)]) hx hb dX9_ringNeeds_1 rfl hl ?o1 rfl (fun ls hl => ?_)
  case o1 => decide
  refine lv_iconst (v := 0) hx hb dX9_ringNeeds_2 ?o2 ?_
  case o2 => decide
  refine lv_istore_n (lv' := [(2, .int (0 : Int32)), (1, .int (0 : Int32)), (0, .ref x)]) hx hb dX9_ringNeeds_3 rfl hl ?o3 rfl (fun ls hl => ?_)
  case o3 => decide
  have loop4 : ∀ (n4 : Nat) (iv4_1 iv4_2 : Int32) (H : Heap) (locs : List Loc) (hL1 : List Nat) (hl1 : hx_h), 0 ≤ iv4_1.toInt → iv4_1.toInt ≤ 400 → 0 ≤ iv4_2.toInt → iv4_2.toInt ≤ 4 → (iv4_1.toInt = hz_ne rr agf byf g bs0.toInt bl0.toInt cn0.toInt.toNat (iv4_2.toInt).toNat) → (iv4_1.toInt ≤ 100 * iv4_2.toInt) → (iv4_2.toInt ≤ bs0.toInt) → ∀ (ls : Array Slot), 4 - iv4_2.toInt < (n4 : Int) → hx_W T_tb (P_ty dA) (dC, dI) vwCl (hx_A L sz) s.heap hL1 hl1 s H locs → hx_T T_tb hL1 hl1 → hx_S T_tb [] L h hL1 hl1 → hl1.2.2 x 7 = some qp → hl1.2.2 x 10 = some qc → hl1.2.2 x 18 = some qri → hl1.2.2 x 16 = some qrs → hl1.2.1 x 11 = cn0 → hl1.2.1 x 8 = pn0 → hx_g hL1 hl1 x 9 → hx_g hL1 hl1 qp 44 → hx_g hL1 hl1 qc 45 → (∀ j : Nat, (j : Int) < (hl1.2.1 x 8).toInt → hl1.2.2 qp j ≠ none) → (∀ j : Nat, (j : Int) < (hl1.2.1 x 11).toInt → hl1.2.2 qc j ≠ none) → hx_num 40 hl1 qp 0 (pn0.toInt) → hx_num 100 hl1 qc 0 (cn0.toInt) → hw_DF hl1 qc qp 2 agf cn0.toInt → hw_DF hl1 qc qp 1 byf cn0.toInt → lv_has ls 5 [(2, .int iv4_2), (1, .int iv4_1), (0, .ref x)] → W p l e ({ frames := 2, cells := 0, slots := 0, locals := 43 }) s m ([.ref x] : List Value).toArray below meth c H locs 0 0 (MQ below (va_Qi (fun (r : Int32) (u : List Nat × hx_h) => (r.toInt = hz_ne rr agf byf g bs0.toInt bl0.toInt cn0.toInt.toNat bs0.toInt.toNat ∧ (0 ≤ r.toInt ∧ r.toInt ≤ 400)) ∧ hx_T T_tb u.1 u.2 ∧ hx_S T_tb [] L h u.1 u.2) (hx_E T_tb (P_ty dA) (dC, dI) vwCl (hx_A L sz)) (hx_A L sz)) ([.ref x] : List Value).toArray s 0 0 (hx_A L sz)) (F0 m 4 ls []) := by
    intro n4
    induction n4 with
    | zero => intro iv4_1 iv4_2 H locs hL1 hl1 bliv4_1 buiv4_1 bliv4_2 buiv4_2 vi4_0 vi4_1 vi4_2 ls hn4; exfalso; omega
    | succ n4 ih4 =>
      intro iv4_1 iv4_2 H locs hL1 hl1 bliv4_1 buiv4_1 bliv4_2 buiv4_2 vi4_0 vi4_1 vi4_2 ls hn4 hW hT hM f_x_7 f_x_10 f_x_18 f_x_16 f_x_11 f_x_8 gx gqp gqc pf_x_8 pf_x_11 nu_qp nu_qc hDF hDP hl
      refine lv_iload_n hx hb dX9_ringNeeds_4 rfl (lv_at hl 0 rfl) ?_
      refine lv_aload_n hx hb dX9_ringNeeds_5 rfl (lv_at hl 2 rfl) ?_
      refine hk_getr hx hb hts hC_9 hown hW gx tt_9 18 ?o4 rfl kw_382 ⟨rfl, rfl, rfl⟩ f_x_18 dX9_ringNeeds_6 ?_
      case o4 => decide
      refine hk_geti hx hb hts hC_7 hown hW (gqri.S hM) tt_7 1 ?o5 rfl kw_312 ⟨rfl, rfl, rfl⟩ ((hM.o gqri trivial rfl).1.trans f_qri_1) dX9_ringNeeds_9 ?_
      case o5 => decide
      refine hb_icmp_ge (zx := iv4_2.toInt) (zy := bs0.toInt) (tgt := 96) hx hb rfl rfl dX9_ringNeeds_12 ?o6 (fun c_1 => ?_) (fun c_1 => ?_)
      case o6 => decide
      · skip
        refine lv_iload_n hx hb dX9_ringNeeds_96 rfl (lv_at hl 1 rfl) ?_
        refine hx_reti hx hb hr hlk hW ⟨⟨(by have h8 := vi4_0; rw [show iv4_2.toInt.toNat = bs0.toInt.toNat by omega] at h8; exact h8), ?o7, ?o8⟩, hT, hM⟩ dX9_ringNeeds_97
        case o7 => omega
        case o8 => omega
      · skip
        refine lv_aload_n hx hb dX9_ringNeeds_15 rfl (lv_at hl 2 rfl) ?_
        refine hk_getr hx hb hts hC_9 hown hW gx tt_9 18 ?o9 rfl kw_382 ⟨rfl, rfl, rfl⟩ f_x_18 dX9_ringNeeds_16 ?_
        case o9 => decide
        refine hk_geti hx hb hts hC_7 hown hW (gqri.S hM) tt_7 2 ?o10 rfl kw_314 ⟨rfl, rfl, rfl⟩ ((hM.o gqri trivial rfl).1.trans f_qri_2) dX9_ringNeeds_19 ?_
        case o10 => decide
        refine lv_istore_n (lv' := [(3, .int bl0), (2, .int iv4_2), (1, .int iv4_1), (0, .ref x)]) hx hb dX9_ringNeeds_22 rfl hl ?o11 rfl (fun ls hl => ?_)
        case o11 => decide
        refine lv_iconst (v := 0) hx hb dX9_ringNeeds_23 ?o12 ?_
        case o12 => decide
        refine lv_istore (lv' := [(4, .int (0 : Int32)), (3, .int bl0), (2, .int iv4_2), (1, .int iv4_1), (0, .ref x)]) hx hb dX9_ringNeeds_24 hl ?o13 rfl (fun ls hl => ?_)
        case o13 => decide
        have loop26 : ∀ (n26 : Nat) (iv26_1 iv26_3 iv26_4 : Int32) (H : Heap) (locs : List Loc) (hL1 : List Nat) (hl1 : hx_h), 0 ≤ iv26_1.toInt → iv26_1.toInt ≤ 400 → 0 ≤ iv26_3.toInt → iv26_3.toInt ≤ 2147483647 → 0 ≤ iv26_4.toInt → iv26_4.toInt ≤ 100 → (hz_cn rr (hz_mt agf byf (g iv4_2.toInt.toNat) (g ((iv4_2.toInt + 1) % bs0.toInt).toNat)) bl0.toInt (iv26_4.toInt).toNat = (iv26_3.toInt, iv26_1.toInt - iv4_1.toInt)) → (iv26_4.toInt ≤ cn0.toInt) → (0 ≤ iv26_1.toInt - iv4_1.toInt ∧ iv26_1.toInt - iv4_1.toInt ≤ iv26_4.toInt) → ∀ (ls : Array Slot), 100 - iv26_4.toInt < (n26 : Int) → hx_W T_tb (P_ty dA) (dC, dI) vwCl (hx_A L sz) s.heap hL1 hl1 s H locs → hx_T T_tb hL1 hl1 → hx_S T_tb [] L h hL1 hl1 → hl1.2.2 x 7 = some qp → hl1.2.2 x 10 = some qc → hl1.2.2 x 18 = some qri → hl1.2.2 x 16 = some qrs → hl1.2.1 x 11 = cn0 → hl1.2.1 x 8 = pn0 → hx_g hL1 hl1 x 9 → hx_g hL1 hl1 qp 44 → hx_g hL1 hl1 qc 45 → (∀ j : Nat, (j : Int) < (hl1.2.1 x 8).toInt → hl1.2.2 qp j ≠ none) → (∀ j : Nat, (j : Int) < (hl1.2.1 x 11).toInt → hl1.2.2 qc j ≠ none) → hx_num 40 hl1 qp 0 (pn0.toInt) → hx_num 100 hl1 qc 0 (cn0.toInt) → hw_DF hl1 qc qp 2 agf cn0.toInt → hw_DF hl1 qc qp 1 byf cn0.toInt → lv_has ls 5 [(4, .int iv26_4), (3, .int iv26_3), (2, .int iv4_2), (1, .int iv26_1), (0, .ref x)] → W p l e ({ frames := 2, cells := 0, slots := 0, locals := 43 }) s m ([.ref x] : List Value).toArray below meth c H locs 0 0 (MQ below (va_Qi (fun (r : Int32) (u : List Nat × hx_h) => (r.toInt = hz_ne rr agf byf g bs0.toInt bl0.toInt cn0.toInt.toNat bs0.toInt.toNat ∧ (0 ≤ r.toInt ∧ r.toInt ≤ 400)) ∧ hx_T T_tb u.1 u.2 ∧ hx_S T_tb [] L h u.1 u.2) (hx_E T_tb (P_ty dA) (dC, dI) vwCl (hx_A L sz)) (hx_A L sz)) ([.ref x] : List Value).toArray s 0 0 (hx_A L sz)) (F0 m 26 ls []) := by
          intro n26
          induction n26 with
          | zero => intro iv26_1 iv26_3 iv26_4 H locs hL1 hl1 bliv26_1 buiv26_1 bliv26_3 buiv26_3 bliv26_4 buiv26_4 vi26_0 vi26_1 vi26_2 ls hn26; exfalso; omega
          | succ n26 ih26 =>
            intro iv26_1 iv26_3 iv26_4 H locs hL1 hl1 bliv26_1 buiv26_1 bliv26_3 buiv26_3 bliv26_4 buiv26_4 vi26_0 vi26_1 vi26_2 ls hn26 hW hT hM f_x_7 f_x_10 f_x_18 f_x_16 f_x_11 f_x_8 gx gqp gqc pf_x_8 pf_x_11 nu_qp nu_qc hDF hDP hl
            refine lv_iload hx hb dX9_ringNeeds_26 (lv_at hl 0 rfl) ?_
            refine lv_aload_n hx hb dX9_ringNeeds_28 rfl (lv_at hl 4 rfl) ?_
            refine hk_geti hx hb hts hC_9 hown hW gx tt_9 11 ?o14 rfl kw_375 ⟨rfl, rfl, rfl⟩ f_x_11 dX9_ringNeeds_29 ?_
            case o14 => decide
            refine hb_icmp_ge (zx := iv26_4.toInt) (zy := cn0.toInt) (tgt := 90) hx hb rfl rfl dX9_ringNeeds_32 ?o15 (fun c_2 => ?_) (fun c_2 => ?_)
            case o15 => decide
            · skip
              have hend9 := vi26_0; rw [show iv26_4.toInt.toNat = cn0.toInt.toNat by omega] at hend9
              obtain ⟨x_3, ex_3⟩ : ∃ y : Int32, y = iv4_2 + Int32.ofInt 1 := ⟨_, rfl⟩
              have rg_4 := i32_r iv4_2
              have zx_3 : x_3.toInt = iv4_2.toInt + (1) := ?o16
              case o16 =>
                rw [ex_3]
                refine i32_add rfl ?o17 ?o18 ?o19
                case o17 => decide
                case o18 => omega
                case o19 => omega
              refine lv_iinc (v := x_3) (lv' := [(2, .int x_3), (4, .int iv26_4), (3, .int iv26_3), (1, .int iv26_1), (0, .ref x)]) hx hb dX9_ringNeeds_90 hl (k := 2) rfl ex_3.symm ?o20 rfl (fun ls hl => ?_)
              case o20 => decide
              refine lv_goto (tgt := 4) hx hb dX9_ringNeeds_93 ?o21 ?_
              case o21 => decide
              refine ih4 iv26_1 x_3 _ _ hL1 hl1 ?o22 ?o23 ?o24 ?o25 (hz_ne_s vi4_0 ?o26 hend9 ?o27 zx_3) ?o28 ?o29 ls ?o30 hW hT hM f_x_7 f_x_10 f_x_18 f_x_16 f_x_11 f_x_8 gx gqp gqc pf_x_8 pf_x_11 nu_qp nu_qc hDF hDP (lv_sub hl [0, 3, 4] rfl)
              case o22 => omega
              case o23 => omega
              case o24 => omega
              case o25 => omega
              case o26 => omega
              case o27 => omega
              case o28 => omega
              case o29 => omega
              case o30 => omega
            · skip
              refine lv_iload_n hx hb dX9_ringNeeds_35 rfl (lv_at hl 1 rfl) ?_
              refine hb_if_le (zx := iv26_3.toInt) (tgt := 90) hx hb rfl dX9_ringNeeds_36 ?o31 (fun c_5 => ?_) (fun c_5 => ?_)
              case o31 => decide
              · skip
                have hend9 := hz_cn_z vi26_0 ?o32 cn0.toInt.toNat ?o33
                case o32 => omega
                case o33 => omega
                obtain ⟨x_6, ex_6⟩ : ∃ y : Int32, y = iv4_2 + Int32.ofInt 1 := ⟨_, rfl⟩
                have rg_7 := i32_r iv4_2
                have zx_6 : x_6.toInt = iv4_2.toInt + (1) := ?o34
                case o34 =>
                  rw [ex_6]
                  refine i32_add rfl ?o35 ?o36 ?o37
                  case o35 => decide
                  case o36 => omega
                  case o37 => omega
                refine lv_iinc (v := x_6) (lv' := [(2, .int x_6), (4, .int iv26_4), (3, .int iv26_3), (1, .int iv26_1), (0, .ref x)]) hx hb dX9_ringNeeds_90 hl (k := 2) rfl ex_6.symm ?o38 rfl (fun ls hl => ?_)
                case o38 => decide
                refine lv_goto (tgt := 4) hx hb dX9_ringNeeds_93 ?o39 ?_
                case o39 => decide
                refine ih4 iv26_1 x_6 _ _ hL1 hl1 ?o40 ?o41 ?o42 ?o43 (hz_ne_s vi4_0 ?o44 hend9 ?o45 zx_6) ?o46 ?o47 ls ?o48 hW hT hM f_x_7 f_x_10 f_x_18 f_x_16 f_x_11 f_x_8 gx gqp gqc pf_x_8 pf_x_11 nu_qp nu_qc hDF hDP (lv_sub hl [0, 3, 4] rfl)
                case o40 => omega
                case o41 => omega
                case o42 => omega
                case o43 => omega
                case o44 => omega
                case o45 => omega
                case o46 => omega
                case o47 => omega
                case o48 => omega
              · skip
                refine lv_aload_n hx hb dX9_ringNeeds_39 rfl (lv_at hl 4 rfl) ?_
                refine hk_getr hx hb hts hC_9 hown hW gx tt_9 16 ?o49 rfl kw_380 ⟨rfl, rfl, rfl⟩ f_x_16 dX9_ringNeeds_40 ?_
                case o49 => decide
                refine lv_iload hx hb dX9_ringNeeds_43 (lv_at hl 0 rfl) ?_
                refine hx_iald hx hb hW hT (gqrs.S hM) tt_48 rfl ⟨?o50, ?o51⟩ dX9_ringNeeds_45 (fun x_8 ex_8 lx_8 ux_8 => ?_)
                case o50 => omega
                case o51 => omega
                have ax_8 : x_8 = rsf iv26_4.toNatClampNeg := ex_8.trans (congrFun (hx_afS hM gqrs rfl af_qrs) _)
                have hrk9 : x_8.toInt = rr iv26_4.toInt.toNat := ?o52
                case o52 =>
                  rw [ax_8]
                  exact hrs _ (by unfold Int32.toNatClampNeg; omega)
                have hrv9 := (by have h9 := hrb iv26_4.toInt.toNat (by omega); rw [← hrk9] at h9; exact h9 : 0 ≤ x_8.toInt ∧ x_8.toInt ≤ 609999)
                refine hb_if_le (zx := x_8.toInt) (tgt := 84) hx hb rfl dX9_ringNeeds_46 ?o53 (fun c_9 => ?_) (fun c_9 => ?_)
                case o53 => decide
                · skip
                  obtain ⟨x_10, ex_10⟩ : ∃ y : Int32, y = iv26_4 + Int32.ofInt 1 := ⟨_, rfl⟩
                  have rg_11 := i32_r iv26_4
                  have zx_10 : x_10.toInt = iv26_4.toInt + (1) := ?o54
                  case o54 =>
                    rw [ex_10]
                    refine i32_add rfl ?o55 ?o56 ?o57
                    case o55 => decide
                    case o56 => omega
                    case o57 => omega
                  refine lv_iinc (v := x_10) (lv' := [(4, .int x_10), (3, .int iv26_3), (2, .int iv4_2), (1, .int iv26_1), (0, .ref x)]) hx hb dX9_ringNeeds_84 hl (k := 0) rfl ex_10.symm ?o58 rfl (fun ls hl => ?_)
                  case o58 => decide
                  refine lv_goto (tgt := 26) hx hb dX9_ringNeeds_87 ?o59 ?_
                  case o59 => decide
                  refine ih26 iv26_1 iv26_3 x_10 _ _ hL1 hl1 ?o60 ?o61 ?o62 ?o63 ?o64 ?o65 (hz_cn_n vi26_0 ?o66 (fun z => by have z9 := z.2.2; rw [← hrk9] at z9; omega) zx_10) ?o67 ?o68 ls ?o69 hW hT hM f_x_7 f_x_10 f_x_18 f_x_16 f_x_11 f_x_8 gx gqp gqc pf_x_8 pf_x_11 nu_qp nu_qc hDF hDP (lv_sub hl [0, 1, 2, 3, 4] rfl)
                  case o60 => omega
                  case o61 => omega
                  case o62 => omega
                  case o63 => omega
                  case o64 => omega
                  case o65 => omega
                  case o66 => omega
                  case o67 => omega
                  case o68 => omega
                  case o69 => omega
                · skip
                  refine lv_aload_n hx hb dX9_ringNeeds_49 rfl (lv_at hl 4 rfl) ?_
                  refine hk_getr hx hb hts hC_9 hown hW gx tt_9 18 ?o70 rfl kw_382 ⟨rfl, rfl, rfl⟩ f_x_18 dX9_ringNeeds_50 ?_
                  case o70 => decide
                  refine lv_iload_n hx hb dX9_ringNeeds_53 rfl (lv_at hl 2 rfl) ?_
                  refine lv_aload_n hx hb dX9_ringNeeds_54 rfl (lv_at hl 4 rfl) ?_
                  refine hk_getr hx hb hts hC_9 hown hW gx tt_9 10 ?o71 rfl kw_374 ⟨rfl, rfl, rfl⟩ f_x_10 dX9_ringNeeds_55 ?_
                  case o71 => decide
                  refine lv_iload hx hb dX9_ringNeeds_58 (lv_at hl 0 rfl) ?_
                  refine hx_aaldN hx hb hW hT gqc tt_45 (t1 := 2) rfl ⟨?o72, ?o73⟩ (pf_x_11 _ (by rw [f_x_11]; exact hx_tnI (by omega) (by omega))) dX9_ringNeeds_60 (fun q_12 fq_12 gq_12 => ?_)
                  case o72 => omega
                  case o73 => omega
                  have hTo := hT
                  obtain ⟨q_13, fq_13, gq_13⟩ := hv_rf hT gq_12 tt_2 (k := 2) (u := 4) rfl
                  obtain ⟨q_14, fq_14, gq_14⟩ := hv_rf hT gq_12 tt_2 (k := 1) (u := 4) rfl
                  obtain ⟨fv_15, efv_15⟩ : ∃ y : Int32, y = hl1.2.1 q_13 0 := ⟨_, rfl⟩
                  have bfv_15 := hT.gi gq_13 tt_4 (k := 0) rfl
                  rw [← efv_15] at bfv_15
                  have bfv_15 : 0 ≤ fv_15.toInt ∧ fv_15.toInt ≤ 39 := bfv_15
                  have ffv_15 := efv_15.symm
                  obtain ⟨fv_16, efv_16⟩ : ∃ y : Int32, y = hl1.2.1 q_14 0 := ⟨_, rfl⟩
                  have bfv_16 := hT.gi gq_14 tt_4 (k := 0) rfl
                  rw [← efv_16] at bfv_16
                  have bfv_16 : 0 ≤ fv_16.toInt ∧ fv_16.toInt ≤ 39 := bfv_16
                  have ffv_16 := efv_16.symm
                  refine hx_goi (hx_runV (As := [.int iv4_2, .ref q_12]) (rest := []) ⟨hx, hb, hml, hown, hts⟩ hW (gqri.S hM) tt_7 (T := TX7) (N := 8) rfl (t_X7_isDebt_v l dC dI dA hL1 hl1 H.size qri iv4_2 q_12 hT (gqri.S hM) gq_12 qbe (gqbe.S hM) ((hM.o gqri trivial rfl).2.trans f_qri_7) q_13 gq_13 fq_13 q_14 gq_14 fq_14 bef (hx_afS hM gqbe rfl af_qbe) bs0 ((hM.o gqri trivial rfl).1.trans f_qri_1) fv_15 ffv_15 fv_16 ffv_16 ⟨?o74, ?o75⟩) (cwV 2 hts (hx_gV kw_1019 kw_1016 kw_1017 kw_1018 kw_101) rfl rfl rfl (by decide +kernel) ⟨Nat.le_of_ble_eq_true rfl, Nat.le_of_ble_eq_true rfl⟩) rfl hl.1 rfl (Nat.le_of_ble_eq_true rfl) dX9_ringNeeds_61 ⟨Nat.le_of_ble_eq_true rfl, Nat.le_of_ble_eq_true rfl⟩) hW (fun r_19 L_17 h_18 H locs p_20 hW => ?_)
                  case o74 => omega
                  case o75 => omega
                  obtain ⟨hr_21, hT, hs⟩ := p_20
                  replace hT : hx_T T_tb L_17 h_18 := hT
                  replace hs : hx_S T_tb [] hL1 hl1 L_17 h_18 := hs
                  replace f_x_7 := (hs.o gx trivial rfl).2.trans f_x_7
                  replace f_x_10 := (hs.o gx trivial rfl).2.trans f_x_10
                  replace f_x_18 := (hs.o gx trivial rfl).2.trans f_x_18
                  replace f_x_16 := (hs.o gx trivial rfl).2.trans f_x_16
                  replace f_x_11 := (hs.o gx trivial rfl).1.trans f_x_11
                  replace f_x_8 := (hs.o gx trivial rfl).1.trans f_x_8
                  replace fq_13 := (hs.o gq_12 trivial rfl).2.trans fq_13
                  replace fq_14 := (hs.o gq_12 trivial rfl).2.trans fq_14
                  replace ffv_15 := (hs.o gq_13 trivial rfl).1.trans ffv_15
                  replace ffv_16 := (hs.o gq_14 trivial rfl).1.trans ffv_16
                  replace pf_x_8 : ∀ j : Nat, (j : Int) < (h_18.2.1 x 8).toInt → h_18.2.2 qp j ≠ none := by
                    intro j hj; rw [(hs.o gx trivial rfl).1] at hj; rw [(hs.a gqp rfl j).2]; exact pf_x_8 j hj
                  replace pf_x_11 : ∀ j : Nat, (j : Int) < (h_18.2.1 x 11).toInt → h_18.2.2 qc j ≠ none := by
                    intro j hj; rw [(hs.o gx trivial rfl).1] at hj; rw [(hs.a gqc rfl j).2]; exact pf_x_11 j hj
                  replace nu_qp : hx_num 40 h_18 qp 0 (pn0.toInt) := hx_num_S hs hTo gqp tt_44 tt_4 rfl rfl nu_qp
                  replace nu_qc : hx_num 100 h_18 qc 0 (cn0.toInt) := hx_num_S hs hTo gqc tt_45 tt_2 rfl rfl nu_qc
                  replace hDF : hw_DF h_18 qc qp 2 agf cn0.toInt := hw_DF_S hs hTo gqc gqp tt_45 tt_2 rfl rfl rfl hDF
                  replace hDP : hw_DF h_18 qc qp 1 byf cn0.toInt := hw_DF_S hs hTo gqc gqp tt_45 tt_2 rfl rfl rfl hDP
                  replace fq_12 := (hs.a gqc rfl _).2.trans fq_12
                  replace ex_8 := ex_8.trans (hs.a (gqrs.S hM) rfl _).1.symm
                  replace hM := hM.tr (hs.mono ?o76)
                  case o76 => decide
                  replace gx := gx.S hs
                  replace gqp := gqp.S hs
                  replace gqc := gqc.S hs
                  replace gq_12 := gq_12.S hs
                  replace gq_13 := gq_13.S hs
                  replace gq_14 := gq_14.S hs
                  obtain ⟨dAq_13, dBq_13, dCq_13⟩ := hDF iv26_4.toNatClampNeg (by unfold Int32.toNatClampNeg; omega) (by unfold Int32.toNatClampNeg; omega) _ _ fq_12 fq_13
                  have dAq_13 : 0 ≤ (agf iv26_4.toNatClampNeg).toInt := dAq_13; have dBq_13 : (agf iv26_4.toNatClampNeg).toInt < 40 := dBq_13; have eoq_13 : h_18.2.2 qp (agf iv26_4.toNatClampNeg).toNatClampNeg = some q_13 := dCq_13
                  obtain ⟨dAq_14, dBq_14, dCq_14⟩ := hDP iv26_4.toNatClampNeg (by unfold Int32.toNatClampNeg; omega) (by unfold Int32.toNatClampNeg; omega) _ _ fq_12 fq_14
                  have dAq_14 : 0 ≤ (byf iv26_4.toNatClampNeg).toInt := dAq_14; have dBq_14 : (byf iv26_4.toNatClampNeg).toInt < 40 := dBq_14; have eoq_14 : h_18.2.2 qp (byf iv26_4.toNatClampNeg).toNatClampNeg = some q_14 := dCq_14
                  have hdn9 : fv_15 = (agf iv26_4.toNatClampNeg) := ?o77
                  case o77 =>
                    rw [← ffv_15]
                    refine hx_num_at nu_qp eoq_13 ?o78 ?o79
                    case o78 => omega
                    case o79 => omega
                  have hpn9 : fv_16 = (byf iv26_4.toNatClampNeg) := ?o80
                  case o80 =>
                    rw [← ffv_16]
                    refine hx_num_at nu_qp eoq_14 ?o81 ?o82
                    case o81 => omega
                    case o82 => omega
                  have hm1 := Int.emod_nonneg (iv4_2.toInt + 1) (show bs0.toInt ≠ 0 by omega); have hm2 := Int.emod_lt_of_pos (iv4_2.toInt + 1) (show 0 < bs0.toInt by omega)
                  have hb19 := hbe iv4_2.toInt.toNat (by omega); have hb29 := hbe ((iv4_2.toInt + 1) % bs0.toInt).toNat (by omega)
                  have hmt9 : (r_19.toInt = 1 ∧ (hz_mt agf byf (g iv4_2.toInt.toNat) (g ((iv4_2.toInt + 1) % bs0.toInt).toNat)) iv26_4.toInt.toNat = true) ∨ (r_19.toInt = 0 ∧ (hz_mt agf byf (g iv4_2.toInt.toNat) (g ((iv4_2.toInt + 1) % bs0.toInt).toNat)) iv26_4.toInt.toNat = false) := ?o83
                  case o83 =>
                    rw [hb19, hb29, hdn9, hpn9] at hr_21
                    rcases hr_21 with ⟨z1, z2, z3⟩ | ⟨z1, z2⟩
                    exact Or.inl ⟨z1, hz_mt_t.mpr ⟨z2, z3⟩⟩
                    exact Or.inr ⟨z1, hz_mt_f (fun z => z2 z)⟩
                  refine hb_if_eq (zx := r_19.toInt) (tgt := 84) hx hb rfl dX9_ringNeeds_64 ?o84 (fun c_22 => ?_) (fun c_22 => ?_)
                  case o84 => decide
                  · skip
                    obtain ⟨x_23, ex_23⟩ : ∃ y : Int32, y = iv26_4 + Int32.ofInt 1 := ⟨_, rfl⟩
                    have rg_24 := i32_r iv26_4
                    have zx_23 : x_23.toInt = iv26_4.toInt + (1) := ?o85
                    case o85 =>
                      rw [ex_23]
                      refine i32_add rfl ?o86 ?o87 ?o88
                      case o86 => decide
                      case o87 => omega
                      case o88 => omega
                    refine lv_iinc (v := x_23) (lv' := [(4, .int x_23), (3, .int iv26_3), (2, .int iv4_2), (1, .int iv26_1), (0, .ref x)]) hx hb dX9_ringNeeds_84 hl (k := 0) rfl ex_23.symm ?o89 rfl (fun ls hl => ?_)
                    case o89 => decide
                    refine lv_goto (tgt := 26) hx hb dX9_ringNeeds_87 ?o90 ?_
                    case o90 => decide
                    refine ih26 iv26_1 iv26_3 x_23 _ _ L_17 h_18 ?o91 ?o92 ?o93 ?o94 ?o95 ?o96 (hz_cn_n vi26_0 ?o97 (fun z => by have z9 := z.2.1; rcases hmt9 with y9 | y9; omega; rw [y9.2] at z9; cases z9) zx_23) ?o98 ?o99 ls ?o100 hW hT hM f_x_7 f_x_10 f_x_18 f_x_16 f_x_11 f_x_8 gx gqp gqc pf_x_8 pf_x_11 nu_qp nu_qc hDF hDP (lv_sub hl [0, 1, 2, 3, 4] rfl)
                    case o91 => omega
                    case o92 => omega
                    case o93 => omega
                    case o94 => omega
                    case o95 => omega
                    case o96 => omega
                    case o97 => omega
                    case o98 => omega
                    case o99 => omega
                    case o100 => omega
                  · skip
                    replace hmt9 := (hmt9.resolve_right (fun z => by have := z.1; omega)).2
                    refine lv_iload_n hx hb dX9_ringNeeds_67 rfl (lv_at hl 1 rfl) ?_
                    refine lv_iload_n hx hb dX9_ringNeeds_68 rfl (lv_at hl 1 rfl) ?_
                    refine lv_aload_n hx hb dX9_ringNeeds_69 rfl (lv_at hl 4 rfl) ?_
                    refine hk_getr hx hb hts hC_9 hown hW gx tt_9 16 ?o101 rfl kw_380 ⟨rfl, rfl, rfl⟩ f_x_16 dX9_ringNeeds_70 ?_
                    case o101 => decide
                    refine lv_iload hx hb dX9_ringNeeds_73 (lv_at hl 0 rfl) ?_
                    refine hx_iald hx hb hW hT (gqrs.S hM) tt_48 rfl ⟨?o102, ?o103⟩ dX9_ringNeeds_75 (fun x_25 ex_25 lx_25 ux_25 => ?_)
                    case o102 => omega
                    case o103 => omega
                    have ax_25 : x_25 = rsf iv26_4.toNatClampNeg := ex_25.trans (congrFun (hx_afS hM gqrs rfl af_qrs) _)
                    obtain rfl : x_8 = x_25 := ex_8.trans ex_25.symm
                    have hTo := hT
                    refine va_mmin hx hb (hml.trans hl.1.symm) hown (hts _ kw_929) (hts _ kw_917) (hts _ kw_109) (hts _ kw_918) (Nat.le_of_ble_eq_true rfl) (Nat.le_of_ble_eq_true rfl) (Nat.le_of_ble_eq_true rfl) (Nat.le_of_ble_eq_true rfl) dX9_ringNeeds_76 ?_
                    refine lv_topi (fun x_26 ex_26 => ?_)
                    have hmi9 := hz_mi_e ex_26; have hmb9 := hz_mi_l (a := iv26_3.toInt) (b := x_8.toInt); have hmc9 := hz_mi_c (a := iv26_3.toInt) (b := x_8.toInt)
                    refine lv_isub hx hb dX9_ringNeeds_79 ?_
                    have rg_27 := i32_r iv26_3
                    have rg_28 := i32_r x_26
                    refine lv_topi (fun x_29 ex_29 => ?_)
                    have zx_29 : x_29.toInt = iv26_3.toInt - x_26.toInt := ?o104
                    case o104 =>
                      rw [ex_29]
                      refine i32_sub rfl rfl ?o105 ?o106
                      case o105 => omega
                      case o106 => omega
                    refine lv_istore_n (lv' := [(3, .int x_29), (4, .int iv26_4), (2, .int iv4_2), (1, .int iv26_1), (0, .ref x)]) hx hb dX9_ringNeeds_80 rfl hl ?o107 rfl (fun ls hl => ?_)
                    case o107 => decide
                    obtain ⟨x_30, ex_30⟩ : ∃ y : Int32, y = iv26_1 + Int32.ofInt 1 := ⟨_, rfl⟩
                    have rg_31 := i32_r iv26_1
                    have zx_30 : x_30.toInt = iv26_1.toInt + (1) := ?o108
                    case o108 =>
                      rw [ex_30]
                      refine i32_add rfl ?o109 ?o110 ?o111
                      case o109 => decide
                      case o110 => omega
                      case o111 => omega
                    refine lv_iinc (v := x_30) (lv' := [(1, .int x_30), (3, .int x_29), (4, .int iv26_4), (2, .int iv4_2), (0, .ref x)]) hx hb dX9_ringNeeds_81 hl (k := 3) rfl ex_30.symm ?o112 rfl (fun ls hl => ?_)
                    case o112 => decide
                    obtain ⟨x_32, ex_32⟩ : ∃ y : Int32, y = iv26_4 + Int32.ofInt 1 := ⟨_, rfl⟩
                    have rg_33 := i32_r iv26_4
                    have zx_32 : x_32.toInt = iv26_4.toInt + (1) := ?o113
                    case o113 =>
                      rw [ex_32]
                      refine i32_add rfl ?o114 ?o115 ?o116
                      case o114 => decide
                      case o115 => omega
                      case o116 => omega
                    refine lv_iinc (v := x_32) (lv' := [(4, .int x_32), (1, .int x_30), (3, .int x_29), (2, .int iv4_2), (0, .ref x)]) hx hb dX9_ringNeeds_84 hl (k := 2) rfl ex_32.symm ?o117 rfl (fun ls hl => ?_)
                    case o117 => decide
                    refine lv_goto (tgt := 26) hx hb dX9_ringNeeds_87 ?o118 ?_
                    case o118 => decide
                    refine ih26 x_30 x_29 x_32 _ _ L_17 h_18 ?o119 ?o120 ?o121 ?o122 ?o123 ?o124 (hz_cn_y vi26_0 ?o125 ?o126 hmt9 (by rw [← hrk9]; omega) (by rw [← hrk9]; exact hmi9) zx_29 ?o127 zx_32) ?o128 ?o129 ls ?o130 hW hT hM f_x_7 f_x_10 f_x_18 f_x_16 f_x_11 f_x_8 gx gqp gqc pf_x_8 pf_x_11 nu_qp nu_qc hDF hDP (lv_sub hl [0, 2, 3, 1, 4] rfl)
                    case o119 => omega
                    case o120 => omega
                    case o121 => omega
                    case o122 => omega
                    case o123 => omega
                    case o124 => omega
                    case o125 => omega
                    case o126 => omega
                    case o127 => omega
                    case o128 => omega
                    case o129 => omega
                    case o130 => omega
        have zk_0 : (0 : Int32).toInt = 0 := ?o131
        case o131 => decide
        refine loop26 101 iv4_1 bl0 (0 : Int32) _ _ hL1 hl1 ?o132 ?o133 ?o134 ?o135 ?o136 ?o137 (by rw [zk_0, Int.sub_self]; rfl) ?o138 ?o139 ls ?o140 hW hT hM f_x_7 f_x_10 f_x_18 f_x_16 f_x_11 f_x_8 gx gqp gqc pf_x_8 pf_x_11 nu_qp nu_qc hDF hDP hl
        case o132 => omega
        case o133 => omega
        case o134 => omega
        case o135 => omega
        case o136 => decide
        case o137 => decide
        case o138 => omega
        case o139 => omega
        case o140 => omega
  have zk_0 : (0 : Int32).toInt = 0 := ?o141
  case o141 => decide
  have zk_0 : (0 : Int32).toInt = 0 := ?o142
  case o142 => decide
  refine loop4 5 (0 : Int32) (0 : Int32) _ _ L h ?o143 ?o144 ?o145 ?o146 (by rw [zk_0]; rfl) ?o147 ?o148 ls ?o149 hW hT hM f_x_7 f_x_10 f_x_18 f_x_16 f_x_11 f_x_8 gx gqp gqc pf_x_8 pf_x_11 nu_qp nu_qc hDF hDP hl
  case o143 => decide
  case o144 => decide
  case o145 => decide
  case o146 => decide
  case o147 => omega
  case o148 => omega
  case o149 => omega


set_option maxHeartbeats 4000000 in
set_option maxRecDepth 100000 in
theorem t_X9_takeOffRing_v (l : Launch) (dC : Nat → ClassId) (dI : Nat → Nat → Nat) (dA : Nat → ClassId) (L : List Nat) (h : hx_h) (sz : Nat) (x : Nat) (hT : hx_T T_tb L h) (gx : hx_g L h x 9) (qp : Nat) (gqp : hx_g L h qp 44) (f_x_7 : h.2.2 x 7 = some qp) (qc : Nat) (gqc : hx_g L h qc 45) (f_x_10 : h.2.2 x 10 = some qc) (qy : Nat) (gqy : hx_g L h qy 3) (f_x_14 : h.2.2 x 14 = some qy) (pqo : Nat) (gpqo : hx_g L h pqo 23) (f_qy_2 : h.2.2 qy 2 = some pqo) (pqd : Nat) (gpqd : hx_g L h pqd 24) (f_qy_3 : h.2.2 qy 3 = some pqd) (pqs : Nat) (gpqs : hx_g L h pqs 26) (f_qy_5 : h.2.2 qy 5 = some pqs) (pqk : Nat) (gpqk : hx_g L h pqk 25) (f_qy_4 : h.2.2 qy 4 = some pqk) (pqt : Nat) (gpqt : hx_g L h pqt 22) (f_qy_1 : h.2.2 qy 1 = some pqt) (qri : Nat) (gqri : hx_g L h qri 7) (f_x_18 : h.2.2 x 18 = some qri) (qbe : Nat) (gqbe : hx_g L h qbe 38) (f_qri_7 : h.2.2 qri 7 = some qbe) (qow : Nat) (gqow : hx_g L h qow 36) (f_qri_5 : h.2.2 qri 5 = some qow) (qls : Nat) (gqls : hx_g L h qls 35) (f_qri_3 : h.2.2 qri 3 = some qls) (qrs : Nat) (gqrs : hx_g L h qrs 48) (f_x_16 : h.2.2 x 16 = some qrs) (bef : Nat → Int32) (af_qbe : h.2.1 qbe = bef) (rsf : Nat → Int32) (af_qrs : h.2.1 qrs = rsf) (owf : Nat → Int32) (af_qow : h.2.1 qow = owf) (lsf : Nat → Int32) (af_qls : h.2.1 qls = lsf) (pof : Nat → Int32) (af_pqo : h.2.1 pqo = pof) (pdf : Nat → Int32) (af_pqd : h.2.1 pqd = pdf) (psm : Nat → Int32) (af_pqs : h.2.1 pqs = psm) (pkf : Nat → Int32) (af_pqk : h.2.1 pqk = pkf) (pst : Nat → Int32) (af_pqt : h.2.1 pqt = pst) (cn0 : Int32) (f_x_11 : h.2.1 x 11 = cn0) (pn0 : Int32) (f_x_8 : h.2.1 x 8 = pn0) (bs0 : Int32) (f_qri_1 : h.2.1 qri 1 = bs0) (bl0 : Int32) (f_qri_2 : h.2.1 qri 2 = bl0) (ct0 : Int32) (f_qri_0 : h.2.1 qri 0 = ct0) (nw0 : Int32) (f_x_2 : h.2.1 x 2 = nw0) (n0 : Int32) (f_qy_0 : h.2.1 qy 0 = n0) (nu_qp : hx_num 40 h qp 0 (pn0.toInt)) (nu_qc : hx_num 100 h qc 0 (cn0.toInt)) (agf byf : Nat → Int32) (hDF : hw_DF h qc qp 2 agf cn0.toInt) (hDP : hw_DF h qc qp 1 byf cn0.toInt) (R : hz_P → Nat → Int) (HR : hz_HR R nw0 cn0.toInt.toNat) (HN : ∀ (P : hz_P) (c : Nat), 0 ≤ R P c) (HB : hz_RB R cn0.toInt.toNat ((pof, pdf, psm, pkf, pst, n0.toInt.toNat) : hz_P)) (hrs : ∀ c : Nat, (c : Int) < cn0.toInt → (rsf c).toInt = R ((pof, pdf, psm, pkf, pst, n0.toInt.toNat) : hz_P) c) (g : Nat → Int) (hbe : ∀ i : Nat, (i : Int) < bs0.toInt → (bef i).toInt = g i) (hRI : hz_RI bl0.toInt bs0.toInt g (R ((pof, pdf, psm, pkf, pst, n0.toInt.toNat) : hz_P)) agf byf cn0.toInt.toNat) (hDW : hz_DW owf (R ((pof, pdf, psm, pkf, pst, n0.toInt.toNat) : hz_P)) agf byf cn0.toInt.toNat) (h600 : (n0.toInt.toNat : Int) + hz_ne (R ((pof, pdf, psm, pkf, pst, n0.toInt.toNat) : hz_P)) agf byf g bs0.toInt bl0.toInt cn0.toInt.toNat bs0.toInt.toNat ≤ 600) (hct : 0 ≤ ct0.toInt ∧ ct0.toInt < 100) (hag : ∀ c, c < cn0.toInt.toNat → 0 ≤ (agf c).toInt ∧ (agf c).toInt < 40 ∧ 0 ≤ (byf c).toInt ∧ (byf c).toInt < 40) (pf_x_8 : ∀ j : Nat, (j : Int) < (h.2.1 x 8).toInt → h.2.2 qp j ≠ none) (pf_x_11 : ∀ j : Nat, (j : Int) < (h.2.1 x 11).toInt → h.2.2 qc j ≠ none) : Met l yX9_takeOffRing (Cond.code yX9_takeOffRing cX9_takeOffRing 6 (some .int) :: hx_all) ({ frames := 2, cells := 0, slots := 0, locals := 43 }) (va_Pc [.ref x] (hx_B T_tb (P_ty dA) (dC, dI) vwCl L h sz)) (va_Qi (fun (r : Int32) (u : List Nat × hx_h) => (∃ (n1 : Int32) (pof1 : Nat → Int32) (pdf1 : Nat → Int32) (psm1 : Nat → Int32) (pkf1 : Nat → Int32) (pst1 : Nat → Int32) (rsf1 : Nat → Int32) (owf1 : Nat → Int32) (ct1 : Int32) (lsf1 : Nat → Int32), u.2.2.1 qy 0 = n1 ∧ u.2.2.1 pqo = pof1 ∧ u.2.2.1 pqd = pdf1 ∧ u.2.2.1 pqs = psm1 ∧ u.2.2.1 pqk = pkf1 ∧ u.2.2.1 pqt = pst1 ∧ u.2.2.1 qrs = rsf1 ∧ u.2.2.1 qow = owf1 ∧ u.2.2.1 qri 0 = ct1 ∧ u.2.2.1 qls = lsf1 ∧ (((pof1, pdf1, psm1, pkf1, pst1, n1.toInt.toNat) : hz_P) = (hz_tr R agf byf g bs0.toInt bl0.toInt nw0 cn0.toInt.toNat ((pof, pdf, psm, pkf, pst, n0.toInt.toNat) : hz_P) bs0.toInt.toNat) ∧ (∀ c : Nat, (c : Int) < cn0.toInt → (rsf1 c).toInt = R ((pof1, pdf1, psm1, pkf1, pst1, n1.toInt.toNat) : hz_P) c) ∧ hz_DW owf1 (R ((pof1, pdf1, psm1, pkf1, pst1, n1.toInt.toNat) : hz_P)) agf byf cn0.toInt.toNat ∧ ct1.toInt = ct0.toInt + 1 ∧ lsf1 = hx_up lsf ct0.toInt.toNat bl0 ∧ r = bl0 * bs0)) ∧ hx_T T_tb u.1 u.2 ∧ hx_S T_tb [(3, 0), (7, 0), (22, 0), (23, 0), (24, 0), (25, 0), (26, 0), (35, 0), (36, 0), (48, 0)] L h u.1 u.2) (hx_E T_tb (P_ty dA) (dC, dI) vwCl (hx_A L sz)) (hx_A L sz)) 0 0 (hx_A L sz) := by
  refine hx_met (lv := [(0, .ref x)]) (by decide +kernel) rfl (Nat.le_of_ble_eq_true rfl) rfl ?_
  intro p e s m below meth c hx hb hml hr hlk hts0 hown hin hsz hW ls hl
  have hts : ∀ w ∈ hx_all, w.before _ s = true := fun w hw => hts0 w (List.mem_cons_of_mem _ hw)
  have hown : s.vm.findClass "SmallCourt" = some m.cls := hown
  have hM : hx_S T_tb [(3, 0), (7, 0), (22, 0), (23, 0), (24, 0), (25, 0), (26, 0), (35, 0), (36, 0), (48, 0)] L h L h := hx_S.rf
  have b_cn0 := hT.gi gx tt_9 (k := 11) rfl
  rw [f_x_11] at b_cn0
  have b_cn0 : 0 ≤ cn0.toInt ∧ cn0.toInt ≤ 100 := b_cn0
  have b_pn0 := hT.gi gx tt_9 (k := 8) rfl
  rw [f_x_8] at b_pn0
  have b_pn0 : 0 ≤ pn0.toInt ∧ pn0.toInt ≤ 40 := b_pn0
  have b_bs0 := hT.gi gqri tt_7 (k := 1) rfl
  rw [f_qri_1] at b_bs0
  have b_bs0 : 0 ≤ bs0.toInt ∧ bs0.toInt ≤ 4 := b_bs0
  have b_bl0 := hT.gi gqri tt_7 (k := 2) rfl
  rw [f_qri_2] at b_bl0
  have b_bl0 : -2147483648 ≤ bl0.toInt ∧ bl0.toInt ≤ 2147483647 := b_bl0
  have b_ct0 := hT.gi gqri tt_7 (k := 0) rfl
  rw [f_qri_0] at b_ct0
  have b_ct0 : -1 ≤ ct0.toInt ∧ ct0.toInt ≤ 100 := b_ct0
  have b_nw0 := hT.gi gx tt_9 (k := 2) rfl
  rw [f_x_2] at b_nw0
  have b_nw0 : 0 ≤ nw0.toInt ∧ nw0.toInt ≤ 7999 := b_nw0
  have b_n0 := hT.gi gqy tt_3 (k := 0) rfl
  rw [f_qy_0] at b_n0
  have b_n0 : 0 ≤ n0.toInt ∧ n0.toInt ≤ 600 := b_n0
  obtain ⟨hbl1, ⟨hn2, hn4⟩, gb9, gd9, gl9, gv9⟩ := hRI
  refine lv_aload_n hx hb dX9_takeOffRing_0 rfl (lv_at hl 0 rfl) ?_
  refine hk_getr hx hb hts hC_9 hown hW gx tt_9 18 ?o0 rfl kw_382 ⟨rfl, rfl, rfl⟩ f_x_18 dX9_takeOffRing_1 ?_
  case o0 => decide
  refine hk_geti hx hb hts hC_7 hown hW (gqri.S hM) tt_7 2 ?o1 rfl kw_314 ⟨rfl, rfl, rfl⟩ ((hM.o gqri trivial rfl).1.trans f_qri_2) dX9_takeOffRing_4 ?_
  case o1 => decide
  refine lv_istore_n (lv' := [(1, .int bl0), (0, .ref x)]) hx hb dX9_takeOffRing_7 rfl hl ?o2 rfl (fun ls hl => ?_)
  case o2 => decide
  refine lv_iconst (v := 0) hx hb dX9_takeOffRing_8 ?o3 ?_
  case o3 => decide
  refine lv_istore_n (lv' := [(2, .int (0 : Int32)), (1, .int bl0), (0, .ref x)]) hx hb dX9_takeOffRing_9 rfl hl ?o4 rfl (fun ls hl => ?_)
  case o4 => decide
  have loop10 : ∀ (n10 : Nat) (iv10_2 fw10_qy_0 : Int32) (ia10_pqo ia10_pqd ia10_pqs ia10_pqk ia10_pqt ia10_qrs : Nat → Int32) (H : Heap) (locs : List Loc) (hL1 : List Nat) (hl1 : hx_h), 0 ≤ iv10_2.toInt → iv10_2.toInt ≤ 4 → 0 ≤ fw10_qy_0.toInt → fw10_qy_0.toInt ≤ 600 → (((ia10_pqo, ia10_pqd, ia10_pqs, ia10_pqk, ia10_pqt, (fw10_qy_0.toInt).toNat) : hz_P) = (hz_tr R agf byf g bs0.toInt bl0.toInt nw0 cn0.toInt.toNat ((pof, pdf, psm, pkf, pst, n0.toInt.toNat) : hz_P) (iv10_2.toInt).toNat)) → (∀ c : Nat, (c : Int) < cn0.toInt → (ia10_qrs c).toInt = R ((ia10_pqo, ia10_pqd, ia10_pqs, ia10_pqk, ia10_pqt, (fw10_qy_0.toInt).toNat) : hz_P) c) → (iv10_2.toInt ≤ bs0.toInt) → ∀ (ls : Array Slot), 4 - iv10_2.toInt < (n10 : Int) → hx_W T_tb (P_ty dA) (dC, dI) vwCl (hx_A L sz) s.heap hL1 hl1 s H locs → hx_T T_tb hL1 hl1 → hx_S T_tb [(3, 0), (7, 0), (22, 0), (23, 0), (24, 0), (25, 0), (26, 0), (35, 0), (36, 0), (48, 0)] L h hL1 hl1 → hl1.2.1 qy 0 = fw10_qy_0 → hl1.2.2 x 7 = some qp → hl1.2.2 x 10 = some qc → hl1.2.2 x 14 = some qy → hl1.2.2 x 18 = some qri → hl1.2.2 x 16 = some qrs → hl1.2.1 x 11 = cn0 → hl1.2.1 x 8 = pn0 → hl1.2.1 qri 0 = ct0 → hl1.2.1 x 2 = nw0 → hx_g hL1 hl1 x 9 → hx_g hL1 hl1 qp 44 → hx_g hL1 hl1 qc 45 → (∀ j : Nat, (j : Int) < (hl1.2.1 x 8).toInt → hl1.2.2 qp j ≠ none) → (∀ j : Nat, (j : Int) < (hl1.2.1 x 11).toInt → hl1.2.2 qc j ≠ none) → hl1.2.1 pqo = ia10_pqo → hl1.2.1 pqd = ia10_pqd → hl1.2.1 pqs = ia10_pqs → hl1.2.1 pqk = ia10_pqk → hl1.2.1 pqt = ia10_pqt → hl1.2.1 qrs = ia10_qrs → hl1.2.1 qow = owf → hl1.2.1 qls = lsf → hx_num 40 hl1 qp 0 (pn0.toInt) → hx_num 100 hl1 qc 0 (cn0.toInt) → hw_DF hl1 qc qp 2 agf cn0.toInt → hw_DF hl1 qc qp 1 byf cn0.toInt → lv_has ls 6 [(2, .int iv10_2), (1, .int bl0), (0, .ref x)] → W p l e ({ frames := 2, cells := 0, slots := 0, locals := 43 }) s m ([.ref x] : List Value).toArray below meth c H locs 0 0 (MQ below (va_Qi (fun (r : Int32) (u : List Nat × hx_h) => (∃ (n1 : Int32) (pof1 : Nat → Int32) (pdf1 : Nat → Int32) (psm1 : Nat → Int32) (pkf1 : Nat → Int32) (pst1 : Nat → Int32) (rsf1 : Nat → Int32) (owf1 : Nat → Int32) (ct1 : Int32) (lsf1 : Nat → Int32), u.2.2.1 qy 0 = n1 ∧ u.2.2.1 pqo = pof1 ∧ u.2.2.1 pqd = pdf1 ∧ u.2.2.1 pqs = psm1 ∧ u.2.2.1 pqk = pkf1 ∧ u.2.2.1 pqt = pst1 ∧ u.2.2.1 qrs = rsf1 ∧ u.2.2.1 qow = owf1 ∧ u.2.2.1 qri 0 = ct1 ∧ u.2.2.1 qls = lsf1 ∧ (((pof1, pdf1, psm1, pkf1, pst1, n1.toInt.toNat) : hz_P) = (hz_tr R agf byf g bs0.toInt bl0.toInt nw0 cn0.toInt.toNat ((pof, pdf, psm, pkf, pst, n0.toInt.toNat) : hz_P) bs0.toInt.toNat) ∧ (∀ c : Nat, (c : Int) < cn0.toInt → (rsf1 c).toInt = R ((pof1, pdf1, psm1, pkf1, pst1, n1.toInt.toNat) : hz_P) c) ∧ hz_DW owf1 (R ((pof1, pdf1, psm1, pkf1, pst1, n1.toInt.toNat) : hz_P)) agf byf cn0.toInt.toNat ∧ ct1.toInt = ct0.toInt + 1 ∧ lsf1 = hx_up lsf ct0.toInt.toNat bl0 ∧ r = bl0 * bs0)) ∧ hx_T T_tb u.1 u.2 ∧ hx_S T_tb [(3, 0), (7, 0), (22, 0), (23, 0), (24, 0), (25, 0), (26, 0), (35, 0), (36, 0), (48, 0)] L h u.1 u.2) (hx_E T_tb (P_ty dA) (dC, dI) vwCl (hx_A L sz)) (hx_A L sz)) ([.ref x] : List Value).toArray s 0 0 (hx_A L sz)) (F0 m 10 ls []) := by
    intro n10
    induction n10 with
    | zero => intro iv10_2 fw10_qy_0 ia10_pqo ia10_pqd ia10_pqs ia10_pqk ia10_pqt ia10_qrs H locs hL1 hl1 bliv10_2 buiv10_2 blfw10_qy_0 bufw10_qy_0 vi10_0 vi10_1 vi10_2 ls hn10; exfalso; omega
    | succ n10 ih10 =>
      intro iv10_2 fw10_qy_0 ia10_pqo ia10_pqd ia10_pqs ia10_pqk ia10_pqt ia10_qrs H locs hL1 hl1 bliv10_2 buiv10_2 blfw10_qy_0 bufw10_qy_0 vi10_0 vi10_1 vi10_2 ls hn10 hW hT hM ffw10_qy_0 f_x_7 f_x_10 f_x_14 f_x_18 f_x_16 f_x_11 f_x_8 f_qri_0 f_x_2 gx gqp gqc pf_x_8 pf_x_11 nia10_pqo nia10_pqd nia10_pqs nia10_pqk nia10_pqt nia10_qrs af_qow af_qls nu_qp nu_qc hDF hDP hl
      refine lv_iload_n hx hb dX9_takeOffRing_10 rfl (lv_at hl 0 rfl) ?_
      refine lv_aload_n hx hb dX9_takeOffRing_11 rfl (lv_at hl 2 rfl) ?_
      refine hk_getr hx hb hts hC_9 hown hW gx tt_9 18 ?o5 rfl kw_382 ⟨rfl, rfl, rfl⟩ f_x_18 dX9_takeOffRing_12 ?_
      case o5 => decide
      refine hk_geti hx hb hts hC_7 hown hW (gqri.S hM) tt_7 1 ?o6 rfl kw_312 ⟨rfl, rfl, rfl⟩ ((hM.o gqri trivial rfl).1.trans f_qri_1) dX9_takeOffRing_15 ?_
      case o6 => decide
      refine hb_icmp_ge (zx := iv10_2.toInt) (zy := bs0.toInt) (tgt := 129) hx hb rfl rfl dX9_takeOffRing_18 ?o7 (fun c_1 => ?_) (fun c_1 => ?_)
      case o7 => decide
      · skip
        have hT8 := vi10_0; rw [show iv10_2.toInt.toNat = bs0.toInt.toNat by omega] at hT8
        refine lv_iload_n hx hb dX9_takeOffRing_129 rfl (lv_at hl 1 rfl) ?_
        refine lv_aload_n hx hb dX9_takeOffRing_130 rfl (lv_at hl 2 rfl) ?_
        refine hk_getr hx hb hts hC_9 hown hW gx tt_9 18 ?o8 rfl kw_382 ⟨rfl, rfl, rfl⟩ f_x_18 dX9_takeOffRing_131 ?_
        case o8 => decide
        refine hk_geti hx hb hts hC_7 hown hW (gqri.S hM) tt_7 1 ?o9 rfl kw_312 ⟨rfl, rfl, rfl⟩ ((hM.o gqri trivial rfl).1.trans f_qri_1) dX9_takeOffRing_134 ?_
        case o9 => decide
        refine lv_imul hx hb dX9_takeOffRing_137 ?_
        refine lv_topi (fun x_2 ex_2 => ?_)
        have mx_2 : bl0.toInt = 0 → x_2.toInt = 0 := fun z => by rw [ex_2]; exact hx_mul0 z
        refine lv_istore_n (lv' := [(2, .int x_2), (1, .int bl0), (0, .ref x)]) hx hb dX9_takeOffRing_138 rfl hl ?o10 rfl (fun ls hl => ?_)
        case o10 => decide
        refine lv_aload_n hx hb dX9_takeOffRing_139 rfl (lv_at hl 2 rfl) ?_
        refine hk_getr hx hb hts hC_9 hown hW gx tt_9 18 ?o11 rfl kw_382 ⟨rfl, rfl, rfl⟩ f_x_18 dX9_takeOffRing_140 ?_
        case o11 => decide
        have hTo := hT
        refine hx_gov (hx_runV (As := []) (rest := []) ⟨hx, hb, hml, hown, hts⟩ hW (gqri.S hM) tt_7 (T := TX7) (N := 8) rfl (t_X7_takeOff_v l dC dI dA hL1 hl1 H.size qri hT (gqri.S hM) qow (gqow.S hM) ((hM.o gqri trivial rfl).2.trans f_qri_5) qbe (gqbe.S hM) ((hM.o gqri trivial rfl).2.trans f_qri_7) qls (gqls.S hM) ((hM.o gqri trivial rfl).2.trans f_qri_3) owf af_qow bef (hx_afS hM gqbe rfl af_qbe) lsf af_qls bl0 ((hM.o gqri trivial rfl).1.trans f_qri_2) bs0 ((hM.o gqri trivial rfl).1.trans f_qri_1) ct0 f_qri_0 (hz_V (R ((pof, pdf, psm, pkf, pst, n0.toInt.toNat) : hz_P)) agf byf cn0.toInt.toNat) g (hz_DT_0 hDW) gb9 gd9 (fun i hi => ⟨gv9 i hi, Int.le_trans (hz_V_ub (fun c hc => HB c hc) ?o12 _).2 ?o13⟩) hbe ?o14 ⟨?o15, ?o16⟩) (cwV 0 hts (hx_gV kw_1031 kw_1028 kw_1029 kw_1030 kw_101) rfl rfl rfl (by decide +kernel) ⟨Nat.le_of_ble_eq_true rfl, Nat.le_of_ble_eq_true rfl⟩) rfl hl.1 rfl (Nat.le_of_ble_eq_true rfl) dX9_takeOffRing_143 ⟨Nat.le_of_ble_eq_true rfl, Nat.le_of_ble_eq_true rfl⟩) hW (fun L_3 h_4 H locs p_6 hW => ?_)
        case o12 => omega
        case o13 => decide
        case o14 => omega
        case o15 => omega
        case o16 => omega
        obtain ⟨⟨w_8, w_9, w_10, fw_8, fw_9, fw_10, hr_7⟩, hT, hs⟩ := p_6
        replace hT : hx_T T_tb L_3 h_4 := hT
        replace hs : hx_S T_tb [(7, 0), (35, 0), (36, 0)] hL1 hl1 L_3 h_4 := hs
        replace f_x_7 := (hs.o gx trivial rfl).2.trans f_x_7
        replace f_x_10 := (hs.o gx trivial rfl).2.trans f_x_10
        replace f_x_14 := (hs.o gx trivial rfl).2.trans f_x_14
        replace f_x_18 := (hs.o gx trivial rfl).2.trans f_x_18
        replace f_x_16 := (hs.o gx trivial rfl).2.trans f_x_16
        replace f_x_11 := (hs.o gx trivial rfl).1.trans f_x_11
        replace f_x_8 := (hs.o gx trivial rfl).1.trans f_x_8
        replace f_x_2 := (hs.o gx trivial rfl).1.trans f_x_2
        replace ffw10_qy_0 := (hs.o (gqy.S hM) trivial rfl).1.trans ffw10_qy_0
        replace pf_x_8 : ∀ j : Nat, (j : Int) < (h_4.2.1 x 8).toInt → h_4.2.2 qp j ≠ none := by
          intro j hj; rw [(hs.o gx trivial rfl).1] at hj; rw [(hs.a gqp rfl j).2]; exact pf_x_8 j hj
        replace pf_x_11 : ∀ j : Nat, (j : Int) < (h_4.2.1 x 11).toInt → h_4.2.2 qc j ≠ none := by
          intro j hj; rw [(hs.o gx trivial rfl).1] at hj; rw [(hs.a gqc rfl j).2]; exact pf_x_11 j hj
        replace nu_qp : hx_num 40 h_4 qp 0 (pn0.toInt) := hx_num_S hs hTo gqp tt_44 tt_4 rfl rfl nu_qp
        replace nu_qc : hx_num 100 h_4 qc 0 (cn0.toInt) := hx_num_S hs hTo gqc tt_45 tt_2 rfl rfl nu_qc
        replace hDF : hw_DF h_4 qc qp 2 agf cn0.toInt := hw_DF_S hs hTo gqc gqp tt_45 tt_2 rfl rfl rfl hDF
        replace hDP : hw_DF h_4 qc qp 1 byf cn0.toInt := hw_DF_S hs hTo gqc gqp tt_45 tt_2 rfl rfl rfl hDP
        replace nia10_pqo : h_4.2.1 pqo = ia10_pqo := (funext fun j => (hs.a (gpqo.S hM) rfl j).1).trans nia10_pqo
        replace nia10_pqd : h_4.2.1 pqd = ia10_pqd := (funext fun j => (hs.a (gpqd.S hM) rfl j).1).trans nia10_pqd
        replace nia10_pqs : h_4.2.1 pqs = ia10_pqs := (funext fun j => (hs.a (gpqs.S hM) rfl j).1).trans nia10_pqs
        replace nia10_pqk : h_4.2.1 pqk = ia10_pqk := (funext fun j => (hs.a (gpqk.S hM) rfl j).1).trans nia10_pqk
        replace nia10_pqt : h_4.2.1 pqt = ia10_pqt := (funext fun j => (hs.a (gpqt.S hM) rfl j).1).trans nia10_pqt
        replace nia10_qrs : h_4.2.1 qrs = ia10_qrs := (funext fun j => (hs.a (gqrs.S hM) rfl j).1).trans nia10_qrs
        replace hM := hM.tr (hs.mono ?o17)
        case o17 => decide
        replace gx := gx.S hs
        replace gqp := gqp.S hs
        replace gqc := gqc.S hs
        have fw_8 : h_4.2.1 qow = w_8 := fw_8
        have fw_9 : h_4.2.1 qri 0 = w_9 := fw_9
        have bw_9 := hT.gi (gqri.S hM) tt_7 (k := 0) rfl
        rw [fw_9] at bw_9
        have bw_9 : -1 ≤ w_9.toInt ∧ w_9.toInt ≤ 100 := bw_9
        have fw_10 : h_4.2.1 qls = w_10 := fw_10
        refine lv_iload_n hx hb dX9_takeOffRing_146 rfl (lv_at hl 0 rfl) ?_
        exact hx_reti hx hb hr hlk hW ⟨⟨fw10_qy_0, ia10_pqo, ia10_pqd, ia10_pqs, ia10_pqk, ia10_pqt, ia10_qrs, w_8, w_9, w_10, ffw10_qy_0, nia10_pqo, nia10_pqd, nia10_pqs, nia10_pqk, nia10_pqt, nia10_qrs, fw_8, fw_9, fw_10, ⟨hT8, vi10_1, (by rw [hT8]; exact hz_DT_W HR HN HB hbl1 ⟨hn2, hn4⟩ gd9 gl9 (fun c hc => (hag c hc).2.2) hr_7.1), hr_7.2.1, hr_7.2.2, ex_2⟩⟩, hT, hM⟩ dX9_takeOffRing_147
      · skip
        refine lv_iload_n hx hb dX9_takeOffRing_21 rfl (lv_at hl 1 rfl) ?_
        refine lv_istore_n (lv' := [(3, .int bl0), (2, .int iv10_2), (1, .int bl0), (0, .ref x)]) hx hb dX9_takeOffRing_22 rfl hl ?o18 rfl (fun ls hl => ?_)
        case o18 => decide
        refine lv_iconst (v := 0) hx hb dX9_takeOffRing_23 ?o19 ?_
        case o19 => decide
        refine lv_istore (lv' := [(4, .int (0 : Int32)), (3, .int bl0), (2, .int iv10_2), (1, .int bl0), (0, .ref x)]) hx hb dX9_takeOffRing_24 hl ?o20 rfl (fun ls hl => ?_)
        case o20 => decide
        have loop26 : ∀ (n26 : Nat) (iv26_3 iv26_4 fw26_qy_0 : Int32) (ia26_pqo ia26_pqd ia26_pqs ia26_pqk ia26_pqt ia26_qrs : Nat → Int32) (H : Heap) (locs : List Loc) (hL1 : List Nat) (hl1 : hx_h), 0 ≤ iv26_3.toInt → iv26_3.toInt ≤ 2147483647 → 0 ≤ iv26_4.toInt → iv26_4.toInt ≤ 100 → 0 ≤ fw26_qy_0.toInt → fw26_qy_0.toInt ≤ 600 → (hz_tk R (hz_mt agf byf (g iv10_2.toInt.toNat) (g ((iv10_2.toInt + 1) % bs0.toInt).toNat)) nw0 (hz_tr R agf byf g bs0.toInt bl0.toInt nw0 cn0.toInt.toNat ((pof, pdf, psm, pkf, pst, n0.toInt.toNat) : hz_P) iv10_2.toInt.toNat) bl0.toInt (iv26_4.toInt).toNat = (((ia26_pqo, ia26_pqd, ia26_pqs, ia26_pqk, ia26_pqt, (fw26_qy_0.toInt).toNat) : hz_P), iv26_3.toInt)) → (∀ c : Nat, (c : Int) < cn0.toInt → (ia26_qrs c).toInt = R ((ia26_pqo, ia26_pqd, ia26_pqs, ia26_pqk, ia26_pqt, (fw26_qy_0.toInt).toNat) : hz_P) c) → (iv26_4.toInt ≤ cn0.toInt) → ∀ (ls : Array Slot), 100 - iv26_4.toInt < (n26 : Int) → hx_W T_tb (P_ty dA) (dC, dI) vwCl (hx_A L sz) s.heap hL1 hl1 s H locs → hx_T T_tb hL1 hl1 → hx_S T_tb [(3, 0), (7, 0), (22, 0), (23, 0), (24, 0), (25, 0), (26, 0), (35, 0), (36, 0), (48, 0)] L h hL1 hl1 → hl1.2.1 qy 0 = fw26_qy_0 → hl1.2.2 x 7 = some qp → hl1.2.2 x 10 = some qc → hl1.2.2 x 14 = some qy → hl1.2.2 x 18 = some qri → hl1.2.2 x 16 = some qrs → hl1.2.1 x 11 = cn0 → hl1.2.1 x 8 = pn0 → hl1.2.1 qri 0 = ct0 → hl1.2.1 x 2 = nw0 → hx_g hL1 hl1 x 9 → hx_g hL1 hl1 qp 44 → hx_g hL1 hl1 qc 45 → (∀ j : Nat, (j : Int) < (hl1.2.1 x 8).toInt → hl1.2.2 qp j ≠ none) → (∀ j : Nat, (j : Int) < (hl1.2.1 x 11).toInt → hl1.2.2 qc j ≠ none) → hl1.2.1 pqo = ia26_pqo → hl1.2.1 pqd = ia26_pqd → hl1.2.1 pqs = ia26_pqs → hl1.2.1 pqk = ia26_pqk → hl1.2.1 pqt = ia26_pqt → hl1.2.1 qrs = ia26_qrs → hl1.2.1 qow = owf → hl1.2.1 qls = lsf → hx_num 40 hl1 qp 0 (pn0.toInt) → hx_num 100 hl1 qc 0 (cn0.toInt) → hw_DF hl1 qc qp 2 agf cn0.toInt → hw_DF hl1 qc qp 1 byf cn0.toInt → lv_has ls 6 [(4, .int iv26_4), (3, .int iv26_3), (2, .int iv10_2), (1, .int bl0), (0, .ref x)] → W p l e ({ frames := 2, cells := 0, slots := 0, locals := 43 }) s m ([.ref x] : List Value).toArray below meth c H locs 0 0 (MQ below (va_Qi (fun (r : Int32) (u : List Nat × hx_h) => (∃ (n1 : Int32) (pof1 : Nat → Int32) (pdf1 : Nat → Int32) (psm1 : Nat → Int32) (pkf1 : Nat → Int32) (pst1 : Nat → Int32) (rsf1 : Nat → Int32) (owf1 : Nat → Int32) (ct1 : Int32) (lsf1 : Nat → Int32), u.2.2.1 qy 0 = n1 ∧ u.2.2.1 pqo = pof1 ∧ u.2.2.1 pqd = pdf1 ∧ u.2.2.1 pqs = psm1 ∧ u.2.2.1 pqk = pkf1 ∧ u.2.2.1 pqt = pst1 ∧ u.2.2.1 qrs = rsf1 ∧ u.2.2.1 qow = owf1 ∧ u.2.2.1 qri 0 = ct1 ∧ u.2.2.1 qls = lsf1 ∧ (((pof1, pdf1, psm1, pkf1, pst1, n1.toInt.toNat) : hz_P) = (hz_tr R agf byf g bs0.toInt bl0.toInt nw0 cn0.toInt.toNat ((pof, pdf, psm, pkf, pst, n0.toInt.toNat) : hz_P) bs0.toInt.toNat) ∧ (∀ c : Nat, (c : Int) < cn0.toInt → (rsf1 c).toInt = R ((pof1, pdf1, psm1, pkf1, pst1, n1.toInt.toNat) : hz_P) c) ∧ hz_DW owf1 (R ((pof1, pdf1, psm1, pkf1, pst1, n1.toInt.toNat) : hz_P)) agf byf cn0.toInt.toNat ∧ ct1.toInt = ct0.toInt + 1 ∧ lsf1 = hx_up lsf ct0.toInt.toNat bl0 ∧ r = bl0 * bs0)) ∧ hx_T T_tb u.1 u.2 ∧ hx_S T_tb [(3, 0), (7, 0), (22, 0), (23, 0), (24, 0), (25, 0), (26, 0), (35, 0), (36, 0), (48, 0)] L h u.1 u.2) (hx_E T_tb (P_ty dA) (dC, dI) vwCl (hx_A L sz)) (hx_A L sz)) ([.ref x] : List Value).toArray s 0 0 (hx_A L sz)) (F0 m 26 ls []) := by
          intro n26
          induction n26 with
          | zero => intro iv26_3 iv26_4 fw26_qy_0 ia26_pqo ia26_pqd ia26_pqs ia26_pqk ia26_pqt ia26_qrs H locs hL1 hl1 bliv26_3 buiv26_3 bliv26_4 buiv26_4 blfw26_qy_0 bufw26_qy_0 vi26_0 vi26_1 vi26_2 ls hn26; exfalso; omega
          | succ n26 ih26 =>
            intro iv26_3 iv26_4 fw26_qy_0 ia26_pqo ia26_pqd ia26_pqs ia26_pqk ia26_pqt ia26_qrs H locs hL1 hl1 bliv26_3 buiv26_3 bliv26_4 buiv26_4 blfw26_qy_0 bufw26_qy_0 vi26_0 vi26_1 vi26_2 ls hn26 hW hT hM ffw26_qy_0 f_x_7 f_x_10 f_x_14 f_x_18 f_x_16 f_x_11 f_x_8 f_qri_0 f_x_2 gx gqp gqc pf_x_8 pf_x_11 nia26_pqo nia26_pqd nia26_pqs nia26_pqk nia26_pqt nia26_qrs af_qow af_qls nu_qp nu_qc hDF hDP hl
            have HT9 : hz_RB R cn0.toInt.toNat (hz_tr R agf byf g bs0.toInt bl0.toInt nw0 cn0.toInt.toNat ((pof, pdf, psm, pkf, pst, n0.toInt.toNat) : hz_P) iv10_2.toInt.toNat) := hz_otherI (ag := agf) (bf := byf) HR HN HB hbl1 ⟨hn2, hn4⟩ gd9 gl9 (j := iv10_2.toInt) ?o21 ?o22 rfl
            case o21 => omega
            case o22 => omega
            have HQ9 : hz_RB R cn0.toInt.toNat ((ia26_pqo, ia26_pqd, ia26_pqs, ia26_pqk, ia26_pqt, fw26_qy_0.toInt.toNat) : hz_P) := hz_tk_RB HR HN HT9 ?o23 vi26_0
            case o23 => omega
            refine lv_iload hx hb dX9_takeOffRing_26 (lv_at hl 0 rfl) ?_
            refine lv_aload_n hx hb dX9_takeOffRing_28 rfl (lv_at hl 4 rfl) ?_
            refine hk_geti hx hb hts hC_9 hown hW gx tt_9 11 ?o24 rfl kw_375 ⟨rfl, rfl, rfl⟩ f_x_11 dX9_takeOffRing_29 ?_
            case o24 => decide
            refine hb_icmp_ge (zx := iv26_4.toInt) (zy := cn0.toInt) (tgt := 123) hx hb rfl rfl dX9_takeOffRing_32 ?o25 (fun c_11 => ?_) (fun c_11 => ?_)
            case o25 => decide
            · skip
              have hend9 := vi26_0; rw [show iv26_4.toInt.toNat = cn0.toInt.toNat by omega] at hend9
              obtain ⟨x_12, ex_12⟩ : ∃ y : Int32, y = iv10_2 + Int32.ofInt 1 := ⟨_, rfl⟩
              have rg_13 := i32_r iv10_2
              have zx_12 : x_12.toInt = iv10_2.toInt + (1) := ?o26
              case o26 =>
                rw [ex_12]
                refine i32_add rfl ?o27 ?o28 ?o29
                case o27 => decide
                case o28 => omega
                case o29 => omega
              refine lv_iinc (v := x_12) (lv' := [(2, .int x_12), (4, .int iv26_4), (3, .int iv26_3), (1, .int bl0), (0, .ref x)]) hx hb dX9_takeOffRing_123 hl (k := 2) rfl ex_12.symm ?o30 rfl (fun ls hl => ?_)
              case o30 => decide
              refine lv_goto (tgt := 10) hx hb dX9_takeOffRing_126 ?o31 ?_
              case o31 => decide
              refine ih10 x_12 fw26_qy_0 ia26_pqo ia26_pqd ia26_pqs ia26_pqk ia26_pqt ia26_qrs _ _ hL1 hl1 ?o32 ?o33 ?o34 ?o35 (hz_tr_s rfl ?o36 hend9 zx_12) vi26_1 ?o37 ls ?o38 hW hT hM ffw26_qy_0 f_x_7 f_x_10 f_x_14 f_x_18 f_x_16 f_x_11 f_x_8 f_qri_0 f_x_2 gx gqp gqc pf_x_8 pf_x_11 nia26_pqo nia26_pqd nia26_pqs nia26_pqk nia26_pqt nia26_qrs af_qow af_qls nu_qp nu_qc hDF hDP (lv_sub hl [0, 3, 4] rfl)
              case o32 => omega
              case o33 => omega
              case o34 => omega
              case o35 => omega
              case o36 => omega
              case o37 => omega
              case o38 => omega
            · skip
              refine lv_iload_n hx hb dX9_takeOffRing_35 rfl (lv_at hl 1 rfl) ?_
              refine hb_if_le (zx := iv26_3.toInt) (tgt := 123) hx hb rfl dX9_takeOffRing_36 ?o39 (fun c_14 => ?_) (fun c_14 => ?_)
              case o39 => decide
              · skip
                have hend9 := hz_tk_z vi26_0 ?o40 cn0.toInt.toNat ?o41
                case o40 => omega
                case o41 => omega
                obtain ⟨x_15, ex_15⟩ : ∃ y : Int32, y = iv10_2 + Int32.ofInt 1 := ⟨_, rfl⟩
                have rg_16 := i32_r iv10_2
                have zx_15 : x_15.toInt = iv10_2.toInt + (1) := ?o42
                case o42 =>
                  rw [ex_15]
                  refine i32_add rfl ?o43 ?o44 ?o45
                  case o43 => decide
                  case o44 => omega
                  case o45 => omega
                refine lv_iinc (v := x_15) (lv' := [(2, .int x_15), (4, .int iv26_4), (3, .int iv26_3), (1, .int bl0), (0, .ref x)]) hx hb dX9_takeOffRing_123 hl (k := 2) rfl ex_15.symm ?o46 rfl (fun ls hl => ?_)
                case o46 => decide
                refine lv_goto (tgt := 10) hx hb dX9_takeOffRing_126 ?o47 ?_
                case o47 => decide
                refine ih10 x_15 fw26_qy_0 ia26_pqo ia26_pqd ia26_pqs ia26_pqk ia26_pqt ia26_qrs _ _ hL1 hl1 ?o48 ?o49 ?o50 ?o51 (hz_tr_s rfl ?o52 hend9 zx_15) vi26_1 ?o53 ls ?o54 hW hT hM ffw26_qy_0 f_x_7 f_x_10 f_x_14 f_x_18 f_x_16 f_x_11 f_x_8 f_qri_0 f_x_2 gx gqp gqc pf_x_8 pf_x_11 nia26_pqo nia26_pqd nia26_pqs nia26_pqk nia26_pqt nia26_qrs af_qow af_qls nu_qp nu_qc hDF hDP (lv_sub hl [0, 3, 4] rfl)
                case o48 => omega
                case o49 => omega
                case o50 => omega
                case o51 => omega
                case o52 => omega
                case o53 => omega
                case o54 => omega
              · skip
                refine lv_aload_n hx hb dX9_takeOffRing_39 rfl (lv_at hl 4 rfl) ?_
                refine hk_getr hx hb hts hC_9 hown hW gx tt_9 16 ?o55 rfl kw_380 ⟨rfl, rfl, rfl⟩ f_x_16 dX9_takeOffRing_40 ?_
                case o55 => decide
                refine lv_iload hx hb dX9_takeOffRing_43 (lv_at hl 0 rfl) ?_
                refine hx_iald hx hb hW hT (gqrs.S hM) tt_48 rfl ⟨?o56, ?o57⟩ dX9_takeOffRing_45 (fun x_17 ex_17 lx_17 ux_17 => ?_)
                case o56 => omega
                case o57 => omega
                have ax_17 : x_17 = ia26_qrs iv26_4.toNatClampNeg := ex_17.trans (congrFun nia26_qrs _)
                have hrk9 : x_17.toInt = R ((ia26_pqo, ia26_pqd, ia26_pqs, ia26_pqk, ia26_pqt, fw26_qy_0.toInt.toNat) : hz_P) iv26_4.toInt.toNat := ?o58
                case o58 =>
                  rw [ax_17]
                  exact vi26_1 _ (by unfold Int32.toNatClampNeg; omega)
                have hrv9 := HQ9 iv26_4.toInt.toNat (by omega); rw [← hrk9] at hrv9
                refine hb_if_le (zx := x_17.toInt) (tgt := 117) hx hb rfl dX9_takeOffRing_46 ?o59 (fun c_18 => ?_) (fun c_18 => ?_)
                case o59 => decide
                · skip
                  obtain ⟨x_19, ex_19⟩ : ∃ y : Int32, y = iv26_4 + Int32.ofInt 1 := ⟨_, rfl⟩
                  have rg_20 := i32_r iv26_4
                  have zx_19 : x_19.toInt = iv26_4.toInt + (1) := ?o60
                  case o60 =>
                    rw [ex_19]
                    refine i32_add rfl ?o61 ?o62 ?o63
                    case o61 => decide
                    case o62 => omega
                    case o63 => omega
                  refine lv_iinc (v := x_19) (lv' := [(4, .int x_19), (3, .int iv26_3), (2, .int iv10_2), (1, .int bl0), (0, .ref x)]) hx hb dX9_takeOffRing_117 hl (k := 0) rfl ex_19.symm ?o64 rfl (fun ls hl => ?_)
                  case o64 => decide
                  refine lv_goto (tgt := 26) hx hb dX9_takeOffRing_120 ?o65 ?_
                  case o65 => decide
                  refine ih26 iv26_3 x_19 fw26_qy_0 ia26_pqo ia26_pqd ia26_pqs ia26_pqk ia26_pqt ia26_qrs _ _ hL1 hl1 ?o66 ?o67 ?o68 ?o69 ?o70 ?o71 (hz_tk_n vi26_0 ?o72 (fun z => by have z9 := z.2.2; rw [← hrk9] at z9; omega) zx_19) vi26_1 ?o73 ls ?o74 hW hT hM ffw26_qy_0 f_x_7 f_x_10 f_x_14 f_x_18 f_x_16 f_x_11 f_x_8 f_qri_0 f_x_2 gx gqp gqc pf_x_8 pf_x_11 nia26_pqo nia26_pqd nia26_pqs nia26_pqk nia26_pqt nia26_qrs af_qow af_qls nu_qp nu_qc hDF hDP (lv_sub hl [0, 1, 2, 3, 4] rfl)
                  case o66 => omega
                  case o67 => omega
                  case o68 => omega
                  case o69 => omega
                  case o70 => omega
                  case o71 => omega
                  case o72 => omega
                  case o73 => omega
                  case o74 => omega
                · skip
                  refine lv_aload_n hx hb dX9_takeOffRing_49 rfl (lv_at hl 4 rfl) ?_
                  refine hk_getr hx hb hts hC_9 hown hW gx tt_9 18 ?o75 rfl kw_382 ⟨rfl, rfl, rfl⟩ f_x_18 dX9_takeOffRing_50 ?_
                  case o75 => decide
                  refine lv_iload_n hx hb dX9_takeOffRing_53 rfl (lv_at hl 2 rfl) ?_
                  refine lv_aload_n hx hb dX9_takeOffRing_54 rfl (lv_at hl 4 rfl) ?_
                  refine hk_getr hx hb hts hC_9 hown hW gx tt_9 10 ?o76 rfl kw_374 ⟨rfl, rfl, rfl⟩ f_x_10 dX9_takeOffRing_55 ?_
                  case o76 => decide
                  refine lv_iload hx hb dX9_takeOffRing_58 (lv_at hl 0 rfl) ?_
                  refine hx_aaldN hx hb hW hT gqc tt_45 (t1 := 2) rfl ⟨?o77, ?o78⟩ (pf_x_11 _ (by rw [f_x_11]; exact hx_tnI (by omega) (by omega))) dX9_takeOffRing_60 (fun q_21 fq_21 gq_21 => ?_)
                  case o77 => omega
                  case o78 => omega
                  have hTo := hT
                  obtain ⟨q_22, fq_22, gq_22⟩ := hv_rf hT gq_21 tt_2 (k := 2) (u := 4) rfl
                  obtain ⟨q_23, fq_23, gq_23⟩ := hv_rf hT gq_21 tt_2 (k := 1) (u := 4) rfl
                  obtain ⟨fv_24, efv_24⟩ : ∃ y : Int32, y = hl1.2.1 q_22 0 := ⟨_, rfl⟩
                  have bfv_24 := hT.gi gq_22 tt_4 (k := 0) rfl
                  rw [← efv_24] at bfv_24
                  have bfv_24 : 0 ≤ fv_24.toInt ∧ fv_24.toInt ≤ 39 := bfv_24
                  have ffv_24 := efv_24.symm
                  obtain ⟨fv_25, efv_25⟩ : ∃ y : Int32, y = hl1.2.1 q_23 0 := ⟨_, rfl⟩
                  have bfv_25 := hT.gi gq_23 tt_4 (k := 0) rfl
                  rw [← efv_25] at bfv_25
                  have bfv_25 : 0 ≤ fv_25.toInt ∧ fv_25.toInt ≤ 39 := bfv_25
                  have ffv_25 := efv_25.symm
                  refine hx_goi (hx_runV (As := [.int iv10_2, .ref q_21]) (rest := []) ⟨hx, hb, hml, hown, hts⟩ hW (gqri.S hM) tt_7 (T := TX7) (N := 8) rfl (t_X7_isDebt_v l dC dI dA hL1 hl1 H.size qri iv10_2 q_21 hT (gqri.S hM) gq_21 qbe (gqbe.S hM) ((hM.o gqri trivial rfl).2.trans f_qri_7) q_22 gq_22 fq_22 q_23 gq_23 fq_23 bef (hx_afS hM gqbe rfl af_qbe) bs0 ((hM.o gqri trivial rfl).1.trans f_qri_1) fv_24 ffv_24 fv_25 ffv_25 ⟨?o79, ?o80⟩) (cwV 2 hts (hx_gV kw_1019 kw_1016 kw_1017 kw_1018 kw_101) rfl rfl rfl (by decide +kernel) ⟨Nat.le_of_ble_eq_true rfl, Nat.le_of_ble_eq_true rfl⟩) rfl hl.1 rfl (Nat.le_of_ble_eq_true rfl) dX9_takeOffRing_61 ⟨Nat.le_of_ble_eq_true rfl, Nat.le_of_ble_eq_true rfl⟩) hW (fun r_28 L_26 h_27 H locs p_29 hW => ?_)
                  case o79 => omega
                  case o80 => omega
                  obtain ⟨hr_30, hT, hs⟩ := p_29
                  replace hT : hx_T T_tb L_26 h_27 := hT
                  replace hs : hx_S T_tb [] hL1 hl1 L_26 h_27 := hs
                  replace f_x_7 := (hs.o gx trivial rfl).2.trans f_x_7
                  replace f_x_10 := (hs.o gx trivial rfl).2.trans f_x_10
                  replace f_x_14 := (hs.o gx trivial rfl).2.trans f_x_14
                  replace f_x_18 := (hs.o gx trivial rfl).2.trans f_x_18
                  replace f_x_16 := (hs.o gx trivial rfl).2.trans f_x_16
                  replace f_x_11 := (hs.o gx trivial rfl).1.trans f_x_11
                  replace f_x_8 := (hs.o gx trivial rfl).1.trans f_x_8
                  replace f_qri_0 := (hs.o (gqri.S hM) trivial rfl).1.trans f_qri_0
                  replace f_x_2 := (hs.o gx trivial rfl).1.trans f_x_2
                  replace ffw26_qy_0 := (hs.o (gqy.S hM) trivial rfl).1.trans ffw26_qy_0
                  replace fq_22 := (hs.o gq_21 trivial rfl).2.trans fq_22
                  replace fq_23 := (hs.o gq_21 trivial rfl).2.trans fq_23
                  replace ffv_24 := (hs.o gq_22 trivial rfl).1.trans ffv_24
                  replace ffv_25 := (hs.o gq_23 trivial rfl).1.trans ffv_25
                  replace pf_x_8 : ∀ j : Nat, (j : Int) < (h_27.2.1 x 8).toInt → h_27.2.2 qp j ≠ none := by
                    intro j hj; rw [(hs.o gx trivial rfl).1] at hj; rw [(hs.a gqp rfl j).2]; exact pf_x_8 j hj
                  replace pf_x_11 : ∀ j : Nat, (j : Int) < (h_27.2.1 x 11).toInt → h_27.2.2 qc j ≠ none := by
                    intro j hj; rw [(hs.o gx trivial rfl).1] at hj; rw [(hs.a gqc rfl j).2]; exact pf_x_11 j hj
                  replace nu_qp : hx_num 40 h_27 qp 0 (pn0.toInt) := hx_num_S hs hTo gqp tt_44 tt_4 rfl rfl nu_qp
                  replace nu_qc : hx_num 100 h_27 qc 0 (cn0.toInt) := hx_num_S hs hTo gqc tt_45 tt_2 rfl rfl nu_qc
                  replace hDF : hw_DF h_27 qc qp 2 agf cn0.toInt := hw_DF_S hs hTo gqc gqp tt_45 tt_2 rfl rfl rfl hDF
                  replace hDP : hw_DF h_27 qc qp 1 byf cn0.toInt := hw_DF_S hs hTo gqc gqp tt_45 tt_2 rfl rfl rfl hDP
                  replace fq_21 := (hs.a gqc rfl _).2.trans fq_21
                  replace af_qow : h_27.2.1 qow = owf := (funext fun j => (hs.a (gqow.S hM) rfl j).1).trans af_qow
                  replace af_qls : h_27.2.1 qls = lsf := (funext fun j => (hs.a (gqls.S hM) rfl j).1).trans af_qls
                  replace nia26_pqo : h_27.2.1 pqo = ia26_pqo := (funext fun j => (hs.a (gpqo.S hM) rfl j).1).trans nia26_pqo
                  replace nia26_pqd : h_27.2.1 pqd = ia26_pqd := (funext fun j => (hs.a (gpqd.S hM) rfl j).1).trans nia26_pqd
                  replace nia26_pqs : h_27.2.1 pqs = ia26_pqs := (funext fun j => (hs.a (gpqs.S hM) rfl j).1).trans nia26_pqs
                  replace nia26_pqk : h_27.2.1 pqk = ia26_pqk := (funext fun j => (hs.a (gpqk.S hM) rfl j).1).trans nia26_pqk
                  replace nia26_pqt : h_27.2.1 pqt = ia26_pqt := (funext fun j => (hs.a (gpqt.S hM) rfl j).1).trans nia26_pqt
                  replace nia26_qrs : h_27.2.1 qrs = ia26_qrs := (funext fun j => (hs.a (gqrs.S hM) rfl j).1).trans nia26_qrs
                  replace ex_17 := ex_17.trans (hs.a (gqrs.S hM) rfl _).1.symm
                  replace hM := hM.tr (hs.mono ?o81)
                  case o81 => decide
                  replace gx := gx.S hs
                  replace gqp := gqp.S hs
                  replace gqc := gqc.S hs
                  replace gq_21 := gq_21.S hs
                  replace gq_22 := gq_22.S hs
                  replace gq_23 := gq_23.S hs
                  obtain ⟨dAq_22, dBq_22, dCq_22⟩ := hDF iv26_4.toNatClampNeg (by unfold Int32.toNatClampNeg; omega) (by unfold Int32.toNatClampNeg; omega) _ _ fq_21 fq_22
                  have dAq_22 : 0 ≤ (agf iv26_4.toNatClampNeg).toInt := dAq_22; have dBq_22 : (agf iv26_4.toNatClampNeg).toInt < 40 := dBq_22; have eoq_22 : h_27.2.2 qp (agf iv26_4.toNatClampNeg).toNatClampNeg = some q_22 := dCq_22
                  obtain ⟨dAq_23, dBq_23, dCq_23⟩ := hDP iv26_4.toNatClampNeg (by unfold Int32.toNatClampNeg; omega) (by unfold Int32.toNatClampNeg; omega) _ _ fq_21 fq_23
                  have dAq_23 : 0 ≤ (byf iv26_4.toNatClampNeg).toInt := dAq_23; have dBq_23 : (byf iv26_4.toNatClampNeg).toInt < 40 := dBq_23; have eoq_23 : h_27.2.2 qp (byf iv26_4.toNatClampNeg).toNatClampNeg = some q_23 := dCq_23
                  have hdn9 : fv_24 = (agf iv26_4.toNatClampNeg) := ?o82
                  case o82 =>
                    rw [← ffv_24]
                    refine hx_num_at nu_qp eoq_22 ?o83 ?o84
                    case o83 => omega
                    case o84 => omega
                  have hpn9 : fv_25 = (byf iv26_4.toNatClampNeg) := ?o85
                  case o85 =>
                    rw [← ffv_25]
                    refine hx_num_at nu_qp eoq_23 ?o86 ?o87
                    case o86 => omega
                    case o87 => omega
                  have hm1 := Int.emod_nonneg (iv10_2.toInt + 1) (show bs0.toInt ≠ 0 by omega); have hm2 := Int.emod_lt_of_pos (iv10_2.toInt + 1) (show 0 < bs0.toInt by omega)
                  have hb19 := hbe iv10_2.toInt.toNat (by omega); have hb29 := hbe ((iv10_2.toInt + 1) % bs0.toInt).toNat (by omega)
                  have hmt9 : (r_28.toInt = 1 ∧ (hz_mt agf byf (g iv10_2.toInt.toNat) (g ((iv10_2.toInt + 1) % bs0.toInt).toNat)) iv26_4.toInt.toNat = true) ∨ (r_28.toInt = 0 ∧ (hz_mt agf byf (g iv10_2.toInt.toNat) (g ((iv10_2.toInt + 1) % bs0.toInt).toNat)) iv26_4.toInt.toNat = false) := ?o88
                  case o88 =>
                    rw [hb19, hb29, hdn9, hpn9] at hr_30
                    rcases hr_30 with ⟨z1, z2, z3⟩ | ⟨z1, z2⟩
                    exact Or.inl ⟨z1, hz_mt_t.mpr ⟨z2, z3⟩⟩
                    exact Or.inr ⟨z1, hz_mt_f (fun z => z2 z)⟩
                  refine hb_if_eq (zx := r_28.toInt) (tgt := 117) hx hb rfl dX9_takeOffRing_64 ?o89 (fun c_31 => ?_) (fun c_31 => ?_)
                  case o89 => decide
                  · skip
                    obtain ⟨x_32, ex_32⟩ : ∃ y : Int32, y = iv26_4 + Int32.ofInt 1 := ⟨_, rfl⟩
                    have rg_33 := i32_r iv26_4
                    have zx_32 : x_32.toInt = iv26_4.toInt + (1) := ?o90
                    case o90 =>
                      rw [ex_32]
                      refine i32_add rfl ?o91 ?o92 ?o93
                      case o91 => decide
                      case o92 => omega
                      case o93 => omega
                    refine lv_iinc (v := x_32) (lv' := [(4, .int x_32), (3, .int iv26_3), (2, .int iv10_2), (1, .int bl0), (0, .ref x)]) hx hb dX9_takeOffRing_117 hl (k := 0) rfl ex_32.symm ?o94 rfl (fun ls hl => ?_)
                    case o94 => decide
                    refine lv_goto (tgt := 26) hx hb dX9_takeOffRing_120 ?o95 ?_
                    case o95 => decide
                    refine ih26 iv26_3 x_32 fw26_qy_0 ia26_pqo ia26_pqd ia26_pqs ia26_pqk ia26_pqt ia26_qrs _ _ L_26 h_27 ?o96 ?o97 ?o98 ?o99 ?o100 ?o101 (hz_tk_n vi26_0 ?o102 (fun z => by have z9 := z.2.1; rcases hmt9 with y9 | y9; omega; rw [y9.2] at z9; cases z9) zx_32) vi26_1 ?o103 ls ?o104 hW hT hM ffw26_qy_0 f_x_7 f_x_10 f_x_14 f_x_18 f_x_16 f_x_11 f_x_8 f_qri_0 f_x_2 gx gqp gqc pf_x_8 pf_x_11 nia26_pqo nia26_pqd nia26_pqs nia26_pqk nia26_pqt nia26_qrs af_qow af_qls nu_qp nu_qc hDF hDP (lv_sub hl [0, 1, 2, 3, 4] rfl)
                    case o96 => omega
                    case o97 => omega
                    case o98 => omega
                    case o99 => omega
                    case o100 => omega
                    case o101 => omega
                    case o102 => omega
                    case o103 => omega
                    case o104 => omega
                  · skip
                    replace hmt9 := (hmt9.resolve_right (fun z => by have := z.1; omega)).2
                    refine lv_iload_n hx hb dX9_takeOffRing_67 rfl (lv_at hl 1 rfl) ?_
                    refine lv_aload_n hx hb dX9_takeOffRing_68 rfl (lv_at hl 4 rfl) ?_
                    refine hk_getr hx hb hts hC_9 hown hW gx tt_9 16 ?o105 rfl kw_380 ⟨rfl, rfl, rfl⟩ f_x_16 dX9_takeOffRing_69 ?_
                    case o105 => decide
                    refine lv_iload hx hb dX9_takeOffRing_72 (lv_at hl 0 rfl) ?_
                    refine hx_iald hx hb hW hT (gqrs.S hM) tt_48 rfl ⟨?o106, ?o107⟩ dX9_takeOffRing_74 (fun x_34 ex_34 lx_34 ux_34 => ?_)
                    case o106 => omega
                    case o107 => omega
                    have ax_34 : x_34 = ia26_qrs iv26_4.toNatClampNeg := ex_34.trans (congrFun nia26_qrs _)
                    obtain rfl : x_17 = x_34 := ex_17.trans ex_34.symm
                    have hTo := hT
                    refine va_mmin hx hb (hml.trans hl.1.symm) hown (hts _ kw_929) (hts _ kw_917) (hts _ kw_109) (hts _ kw_918) (Nat.le_of_ble_eq_true rfl) (Nat.le_of_ble_eq_true rfl) (Nat.le_of_ble_eq_true rfl) (Nat.le_of_ble_eq_true rfl) dX9_takeOffRing_75 ?_
                    refine lv_topi (fun x_35 ex_35 => ?_)
                    have hmi9 := hz_mi_e ex_35; have hmb9 := hz_mi_l (a := iv26_3.toInt) (b := x_17.toInt); have hmc9 := hz_mi_c (a := iv26_3.toInt) (b := x_17.toInt)
                    refine lv_istore (lv' := [(5, .int x_35), (4, .int iv26_4), (3, .int iv26_3), (2, .int iv10_2), (1, .int bl0), (0, .ref x)]) hx hb dX9_takeOffRing_78 hl ?o108 rfl (fun ls hl => ?_)
                    case o108 => decide
                    refine lv_aload_n hx hb dX9_takeOffRing_80 rfl (lv_at hl 5 rfl) ?_
                    refine hk_getr hx hb hts hC_9 hown hW gx tt_9 14 ?o109 rfl kw_378 ⟨rfl, rfl, rfl⟩ f_x_14 dX9_takeOffRing_81 ?_
                    case o109 => decide
                    refine lv_iload hx hb dX9_takeOffRing_84 (lv_at hl 1 rfl) ?_
                    refine lv_aload_n hx hb dX9_takeOffRing_86 rfl (lv_at hl 5 rfl) ?_
                    refine hk_geti hx hb hts hC_9 hown hW gx tt_9 2 ?o110 rfl kw_366 ⟨rfl, rfl, rfl⟩ f_x_2 dX9_takeOffRing_87 ?_
                    case o110 => decide
                    refine lv_aload_n hx hb dX9_takeOffRing_90 rfl (lv_at hl 5 rfl) ?_
                    refine hk_geti hx hb hts hC_9 hown hW gx tt_9 2 ?o111 rfl kw_366 ⟨rfl, rfl, rfl⟩ f_x_2 dX9_takeOffRing_91 ?_
                    case o111 => decide
                    refine lv_iload hx hb dX9_takeOffRing_94 (lv_at hl 0 rfl) ?_
                    have hrm9 := hz_roomI HR HN HB hbl1 ⟨hn2, hn4⟩ gd9 gl9 h600 (j := iv10_2.toInt) ?o112 ?o113 (k := iv26_4.toInt.toNat) ?o114 vi26_0 ?o115 hmt9 (by rw [← hrk9]; omega)
                    case o112 => omega
                    case o113 => omega
                    case o114 => omega
                    case o115 => omega
                    have hrm8 : ((fw26_qy_0.toInt.toNat : Nat) : Int) + 1 ≤ 600 := hrm9
                    have hTo := hT
                    refine hx_goi (hx_runV (As := [.int iv26_4, .int nw0, .int nw0, .int x_35]) (rest := []) ⟨hx, hb, hml, hown, hts⟩ hW (gqy.S hM) tt_3 (T := TX3) (N := 6) rfl (t_X3_addPayment_v l dC dI dA L_26 h_27 H.size qy iv26_4 nw0 nw0 x_35 hT (gqy.S hM) pqo (gpqo.S hM) ((hM.o gqy trivial rfl).2.trans f_qy_2) pqd (gpqd.S hM) ((hM.o gqy trivial rfl).2.trans f_qy_3) pqs (gpqs.S hM) ((hM.o gqy trivial rfl).2.trans f_qy_5) pqk (gpqk.S hM) ((hM.o gqy trivial rfl).2.trans f_qy_4) pqt (gpqt.S hM) ((hM.o gqy trivial rfl).2.trans f_qy_1) ia26_pqo nia26_pqo ia26_pqd nia26_pqd ia26_pqs nia26_pqs ia26_pqk nia26_pqk ia26_pqt nia26_pqt fw26_qy_0 ffw26_qy_0 ?o116) (cwV 4 hts (hx_gV kw_895 kw_892 kw_893 kw_894 kw_99) rfl rfl rfl (by decide +kernel) ⟨Nat.le_of_ble_eq_true rfl, Nat.le_of_ble_eq_true rfl⟩) rfl hl.1 rfl (Nat.le_of_ble_eq_true rfl) dX9_takeOffRing_96 ⟨Nat.le_of_ble_eq_true rfl, Nat.le_of_ble_eq_true rfl⟩) hW (fun r_38 L_36 h_37 H locs p_39 hW => ?_)
                    case o116 => omega
                    obtain ⟨⟨w_41, w_42, w_43, w_44, w_45, w_46, fw_41, fw_42, fw_43, fw_44, fw_45, fw_46, hr_40⟩, hT, hs⟩ := p_39
                    replace hT : hx_T T_tb L_36 h_37 := hT
                    replace hs : hx_S T_tb [(3, 0), (22, 0), (23, 0), (24, 0), (25, 0), (26, 0)] L_26 h_27 L_36 h_37 := hs
                    replace f_x_7 := (hs.o gx trivial rfl).2.trans f_x_7
                    replace f_x_10 := (hs.o gx trivial rfl).2.trans f_x_10
                    replace f_x_14 := (hs.o gx trivial rfl).2.trans f_x_14
                    replace f_x_18 := (hs.o gx trivial rfl).2.trans f_x_18
                    replace f_x_16 := (hs.o gx trivial rfl).2.trans f_x_16
                    replace f_x_11 := (hs.o gx trivial rfl).1.trans f_x_11
                    replace f_x_8 := (hs.o gx trivial rfl).1.trans f_x_8
                    replace f_qri_0 := (hs.o (gqri.S hM) trivial rfl).1.trans f_qri_0
                    replace f_x_2 := (hs.o gx trivial rfl).1.trans f_x_2
                    replace fq_22 := (hs.o gq_21 trivial rfl).2.trans fq_22
                    replace fq_23 := (hs.o gq_21 trivial rfl).2.trans fq_23
                    replace ffv_24 := (hs.o gq_22 trivial rfl).1.trans ffv_24
                    replace ffv_25 := (hs.o gq_23 trivial rfl).1.trans ffv_25
                    replace pf_x_8 : ∀ j : Nat, (j : Int) < (h_37.2.1 x 8).toInt → h_37.2.2 qp j ≠ none := by
                      intro j hj; rw [(hs.o gx trivial rfl).1] at hj; rw [(hs.a gqp rfl j).2]; exact pf_x_8 j hj
                    replace pf_x_11 : ∀ j : Nat, (j : Int) < (h_37.2.1 x 11).toInt → h_37.2.2 qc j ≠ none := by
                      intro j hj; rw [(hs.o gx trivial rfl).1] at hj; rw [(hs.a gqc rfl j).2]; exact pf_x_11 j hj
                    replace nu_qp : hx_num 40 h_37 qp 0 (pn0.toInt) := hx_num_S hs hTo gqp tt_44 tt_4 rfl rfl nu_qp
                    replace nu_qc : hx_num 100 h_37 qc 0 (cn0.toInt) := hx_num_S hs hTo gqc tt_45 tt_2 rfl rfl nu_qc
                    replace hDF : hw_DF h_37 qc qp 2 agf cn0.toInt := hw_DF_S hs hTo gqc gqp tt_45 tt_2 rfl rfl rfl hDF
                    replace hDP : hw_DF h_37 qc qp 1 byf cn0.toInt := hw_DF_S hs hTo gqc gqp tt_45 tt_2 rfl rfl rfl hDP
                    replace fq_21 := (hs.a gqc rfl _).2.trans fq_21
                    replace eoq_22 := (hs.a gqp rfl _).2.trans eoq_22
                    replace eoq_23 := (hs.a gqp rfl _).2.trans eoq_23
                    replace af_qow : h_37.2.1 qow = owf := (funext fun j => (hs.a (gqow.S hM) rfl j).1).trans af_qow
                    replace af_qls : h_37.2.1 qls = lsf := (funext fun j => (hs.a (gqls.S hM) rfl j).1).trans af_qls
                    replace nia26_qrs : h_37.2.1 qrs = ia26_qrs := (funext fun j => (hs.a (gqrs.S hM) rfl j).1).trans nia26_qrs
                    replace ex_17 := ex_17.trans (hs.a (gqrs.S hM) rfl _).1.symm
                    replace hM := hM.tr (hs.mono ?o117)
                    case o117 => decide
                    replace gx := gx.S hs
                    replace gqp := gqp.S hs
                    replace gqc := gqc.S hs
                    replace gq_21 := gq_21.S hs
                    replace gq_22 := gq_22.S hs
                    replace gq_23 := gq_23.S hs
                    have fw_41 : h_37.2.1 qy 0 = w_41 := fw_41
                    have bw_41 := hT.gi (gqy.S hM) tt_3 (k := 0) rfl
                    rw [fw_41] at bw_41
                    have bw_41 : 0 ≤ w_41.toInt ∧ w_41.toInt ≤ 600 := bw_41
                    have fw_42 : h_37.2.1 pqo = w_42 := fw_42
                    have fw_43 : h_37.2.1 pqd = w_43 := fw_43
                    have fw_44 : h_37.2.1 pqs = w_44 := fw_44
                    have fw_45 : h_37.2.1 pqk = w_45 := fw_45
                    have fw_46 : h_37.2.1 pqt = w_46 := fw_46
                    have happ9 : ((w_42, w_43, w_44, w_45, w_46, w_41.toInt.toNat) : hz_P) = hz_ap ((ia26_pqo, ia26_pqd, ia26_pqs, ia26_pqk, ia26_pqt, fw26_qy_0.toInt.toNat) : hz_P) iv26_4 x_35 nw0 := hz_ap_eq hr_40.2.2 (by have h9 := hr_40.2.1; omega)
                    refine lv_pop hx hb dX9_takeOffRing_99 rfl ?_
                    refine lv_aload_n hx hb dX9_takeOffRing_100 rfl (lv_at hl 5 rfl) ?_
                    refine hk_getr hx hb hts hC_9 hown hW gx tt_9 16 ?o118 rfl kw_380 ⟨rfl, rfl, rfl⟩ f_x_16 dX9_takeOffRing_101 ?_
                    case o118 => decide
                    refine lv_iload hx hb dX9_takeOffRing_104 (lv_at hl 1 rfl) ?_
                    refine lv_dup2_11 hx hb dX9_takeOffRing_106 rfl rfl ?_
                    refine hx_iald hx hb hW hT (gqrs.S hM) tt_48 rfl ⟨?o119, ?o120⟩ dX9_takeOffRing_107 (fun x_47 ex_47 lx_47 ux_47 => ?_)
                    case o119 => omega
                    case o120 => omega
                    have ax_47 : x_47 = ia26_qrs iv26_4.toNatClampNeg := ex_47.trans (congrFun nia26_qrs _)
                    obtain rfl : x_17 = x_47 := ex_17.trans ex_47.symm
                    refine lv_iload hx hb dX9_takeOffRing_108 (lv_at hl 0 rfl) ?_
                    refine lv_isub hx hb dX9_takeOffRing_110 ?_
                    have rg_48 := i32_r x_17
                    have rg_49 := i32_r x_35
                    refine lv_topi (fun x_50 ex_50 => ?_)
                    have zx_50 : x_50.toInt = x_17.toInt - x_35.toInt := ?o121
                    case o121 =>
                      rw [ex_50]
                      refine i32_sub rfl rfl ?o122 ?o123
                      case o122 => omega
                      case o123 => omega
                    have hTo := hT
                    have nia26_qrsO := nia26_qrs
                    have hTo := hT
                    refine hx_iast hx hb hW hT (hx_S.rf (M := [(48, 0)])) (gqrs.S hM) tt_48 rfl ⟨?o124, ?o125⟩ rfl (i32_r _) (List.mem_singleton.mpr rfl) dX9_takeOffRing_111 (fun H locs h_51 eh_51 hW hT hs => ?_)
                    case o124 => omega
                    case o125 => omega
                    replace f_x_7 := (hs.o gx trivial rfl).2.trans f_x_7
                    replace f_x_10 := (hs.o gx trivial rfl).2.trans f_x_10
                    replace f_x_14 := (hs.o gx trivial rfl).2.trans f_x_14
                    replace f_x_18 := (hs.o gx trivial rfl).2.trans f_x_18
                    replace f_x_16 := (hs.o gx trivial rfl).2.trans f_x_16
                    replace f_x_11 := (hs.o gx trivial rfl).1.trans f_x_11
                    replace f_x_8 := (hs.o gx trivial rfl).1.trans f_x_8
                    replace f_qri_0 := (hs.o (gqri.S hM) trivial rfl).1.trans f_qri_0
                    replace f_x_2 := (hs.o gx trivial rfl).1.trans f_x_2
                    replace fq_22 := (hs.o gq_21 trivial rfl).2.trans fq_22
                    replace fq_23 := (hs.o gq_21 trivial rfl).2.trans fq_23
                    replace ffv_24 := (hs.o gq_22 trivial rfl).1.trans ffv_24
                    replace ffv_25 := (hs.o gq_23 trivial rfl).1.trans ffv_25
                    replace fw_41 := (hs.o (gqy.S hM) trivial rfl).1.trans fw_41
                    replace pf_x_8 : ∀ j : Nat, (j : Int) < (h_51.2.1 x 8).toInt → h_51.2.2 qp j ≠ none := by
                      intro j hj; rw [(hs.o gx trivial rfl).1] at hj; rw [(hs.a gqp rfl j).2]; exact pf_x_8 j hj
                    replace pf_x_11 : ∀ j : Nat, (j : Int) < (h_51.2.1 x 11).toInt → h_51.2.2 qc j ≠ none := by
                      intro j hj; rw [(hs.o gx trivial rfl).1] at hj; rw [(hs.a gqc rfl j).2]; exact pf_x_11 j hj
                    replace nu_qp : hx_num 40 h_51 qp 0 (pn0.toInt) := hx_num_S hs hTo gqp tt_44 tt_4 rfl rfl nu_qp
                    replace nu_qc : hx_num 100 h_51 qc 0 (cn0.toInt) := hx_num_S hs hTo gqc tt_45 tt_2 rfl rfl nu_qc
                    replace hDF : hw_DF h_51 qc qp 2 agf cn0.toInt := hw_DF_S hs hTo gqc gqp tt_45 tt_2 rfl rfl rfl hDF
                    replace hDP : hw_DF h_51 qc qp 1 byf cn0.toInt := hw_DF_S hs hTo gqc gqp tt_45 tt_2 rfl rfl rfl hDP
                    replace fq_21 := (hs.a gqc rfl _).2.trans fq_21
                    replace eoq_22 := (hs.a gqp rfl _).2.trans eoq_22
                    replace eoq_23 := (hs.a gqp rfl _).2.trans eoq_23
                    replace af_qow : h_51.2.1 qow = owf := (funext fun j => (hs.a (gqow.S hM) rfl j).1).trans af_qow
                    replace af_qls : h_51.2.1 qls = lsf := (funext fun j => (hs.a (gqls.S hM) rfl j).1).trans af_qls
                    replace fw_42 : h_51.2.1 pqo = w_42 := (funext fun j => (hs.a (gpqo.S hM) rfl j).1).trans fw_42
                    replace fw_43 : h_51.2.1 pqd = w_43 := (funext fun j => (hs.a (gpqd.S hM) rfl j).1).trans fw_43
                    replace fw_44 : h_51.2.1 pqs = w_44 := (funext fun j => (hs.a (gpqs.S hM) rfl j).1).trans fw_44
                    replace fw_45 : h_51.2.1 pqk = w_45 := (funext fun j => (hs.a (gpqk.S hM) rfl j).1).trans fw_45
                    replace fw_46 : h_51.2.1 pqt = w_46 := (funext fun j => (hs.a (gpqt.S hM) rfl j).1).trans fw_46
                    replace hM := hM.tr (hs.mono ?o126)
                    case o126 => decide
                    replace gx := gx.S hs
                    replace gqp := gqp.S hs
                    replace gqc := gqc.S hs
                    replace gq_21 := gq_21.S hs
                    replace gq_22 := gq_22.S hs
                    replace gq_23 := gq_23.S hs
                    obtain ⟨fa_52, dfa_52⟩ : ∃ g : Nat → Int32, g = hx_up ia26_qrs iv26_4.toNatClampNeg x_50 := ⟨_, rfl⟩
                    have nfa_52 : h_51.2.1 qrs = fa_52 := ?o127
                    case o127 =>
                      rw [eh_51, dfa_52, ← nia26_qrsO]
                      exact hx_pi_fun _ _ _ _
                    have hrs9 := hz_rs_upI HR ?o128 vi26_1 (k := iv26_4.toInt) ?o129 ?o130 (s := x_35) (x := x_50) (c := iv26_4) ?o131 (by rw [← hrk9]; omega) (by unfold Int32.toNatClampNeg; omega) (by rw [← hrk9]; omega) rfl dfa_52 happ9
                    case o128 => omega
                    case o129 => omega
                    case o130 => omega
                    case o131 => omega
                    refine lv_iload_n hx hb dX9_takeOffRing_112 rfl (lv_at hl 2 rfl) ?_
                    refine lv_iload hx hb dX9_takeOffRing_113 (lv_at hl 0 rfl) ?_
                    refine lv_isub hx hb dX9_takeOffRing_115 ?_
                    have rg_53 := i32_r iv26_3
                    refine lv_topi (fun x_54 ex_54 => ?_)
                    have zx_54 : x_54.toInt = iv26_3.toInt - x_35.toInt := ?o132
                    case o132 =>
                      rw [ex_54]
                      refine i32_sub rfl rfl ?o133 ?o134
                      case o133 => omega
                      case o134 => omega
                    refine lv_istore_n (lv' := [(3, .int x_54), (5, .int x_35), (4, .int iv26_4), (2, .int iv10_2), (1, .int bl0), (0, .ref x)]) hx hb dX9_takeOffRing_116 rfl hl ?o135 rfl (fun ls hl => ?_)
                    case o135 => decide
                    obtain ⟨x_55, ex_55⟩ : ∃ y : Int32, y = iv26_4 + Int32.ofInt 1 := ⟨_, rfl⟩
                    have rg_56 := i32_r iv26_4
                    have zx_55 : x_55.toInt = iv26_4.toInt + (1) := ?o136
                    case o136 =>
                      rw [ex_55]
                      refine i32_add rfl ?o137 ?o138 ?o139
                      case o137 => decide
                      case o138 => omega
                      case o139 => omega
                    refine lv_iinc (v := x_55) (lv' := [(4, .int x_55), (3, .int x_54), (5, .int x_35), (2, .int iv10_2), (1, .int bl0), (0, .ref x)]) hx hb dX9_takeOffRing_117 hl (k := 2) rfl ex_55.symm ?o140 rfl (fun ls hl => ?_)
                    case o140 => decide
                    refine lv_goto (tgt := 26) hx hb dX9_takeOffRing_120 ?o141 ?_
                    case o141 => decide
                    refine ih26 x_54 x_55 w_41 w_42 w_43 w_44 w_45 w_46 fa_52 _ _ L_36 h_51 ?o142 ?o143 ?o144 ?o145 ?o146 ?o147 (hz_tk_y vi26_0 ?o148 ?o149 ?o150 hmt9 (by rw [← hrk9]; omega) (by rw [← hrk9]; omega) rfl (by rw [← hrk9]; exact hmi9) happ9 zx_54 zx_55) hrs9 ?o151 ls ?o152 hW hT hM fw_41 f_x_7 f_x_10 f_x_14 f_x_18 f_x_16 f_x_11 f_x_8 f_qri_0 f_x_2 gx gqp gqc pf_x_8 pf_x_11 fw_42 fw_43 fw_44 fw_45 fw_46 nfa_52 af_qow af_qls nu_qp nu_qc hDF hDP (lv_sub hl [0, 1, 3, 4, 5] rfl)
                    case o142 => omega
                    case o143 => omega
                    case o144 => omega
                    case o145 => omega
                    case o146 => omega
                    case o147 => omega
                    case o148 => omega
                    case o149 => omega
                    case o150 => omega
                    case o151 => omega
                    case o152 => omega
        have zk_0 : (0 : Int32).toInt = 0 := ?o153
        case o153 => decide
        refine loop26 101 bl0 (0 : Int32) fw10_qy_0 ia10_pqo ia10_pqd ia10_pqs ia10_pqk ia10_pqt ia10_qrs _ _ hL1 hl1 ?o154 ?o155 ?o156 ?o157 ?o158 ?o159 (by rw [zk_0, vi10_0]; rfl) vi10_1 ?o160 ls ?o161 hW hT hM ffw10_qy_0 f_x_7 f_x_10 f_x_14 f_x_18 f_x_16 f_x_11 f_x_8 f_qri_0 f_x_2 gx gqp gqc pf_x_8 pf_x_11 nia10_pqo nia10_pqd nia10_pqs nia10_pqk nia10_pqt nia10_qrs af_qow af_qls nu_qp nu_qc hDF hDP hl
        case o154 => omega
        case o155 => omega
        case o156 => decide
        case o157 => decide
        case o158 => omega
        case o159 => omega
        case o160 => omega
        case o161 => omega
  have zk_0 : (0 : Int32).toInt = 0 := ?o162
  case o162 => decide
  refine loop10 5 (0 : Int32) n0 pof pdf psm pkf pst rsf _ _ L h ?o163 ?o164 ?o165 ?o166 (by rw [zk_0]; rfl) hrs ?o167 ls ?o168 hW hT hM f_qy_0 f_x_7 f_x_10 f_x_14 f_x_18 f_x_16 f_x_11 f_x_8 f_qri_0 f_x_2 gx gqp gqc pf_x_8 pf_x_11 af_pqo af_pqd af_pqs af_pqk af_pqt af_qrs af_qow af_qls nu_qp nu_qc hDF hDP hl
  case o163 => decide
  case o164 => decide
  case o165 => omega
  case o166 => omega
  case o167 => omega
  case o168 => omega


set_option maxHeartbeats 4000000 in
set_option maxRecDepth 100000 in
theorem t_X9_net_v (l : Launch) (dC : Nat → ClassId) (dI : Nat → Nat → Nat) (dA : Nat → ClassId) (L : List Nat) (h : hx_h) (sz : Nat) (x : Nat) (hT : hx_T T_tb L h) (gx : hx_g L h x 9) (qp : Nat) (gqp : hx_g L h qp 44) (f_x_7 : h.2.2 x 7 = some qp) (qc : Nat) (gqc : hx_g L h qc 45) (f_x_10 : h.2.2 x 10 = some qc) (qy : Nat) (gqy : hx_g L h qy 3) (f_x_14 : h.2.2 x 14 = some qy) (pqo : Nat) (gpqo : hx_g L h pqo 23) (f_qy_2 : h.2.2 qy 2 = some pqo) (pqd : Nat) (gpqd : hx_g L h pqd 24) (f_qy_3 : h.2.2 qy 3 = some pqd) (pqs : Nat) (gpqs : hx_g L h pqs 26) (f_qy_5 : h.2.2 qy 5 = some pqs) (pqk : Nat) (gpqk : hx_g L h pqk 25) (f_qy_4 : h.2.2 qy 4 = some pqk) (pqt : Nat) (gpqt : hx_g L h pqt 22) (f_qy_1 : h.2.2 qy 1 = some pqt) (qri : Nat) (gqri : hx_g L h qri 7) (f_x_18 : h.2.2 x 18 = some qri) (qbe : Nat) (gqbe : hx_g L h qbe 38) (f_qri_7 : h.2.2 qri 7 = some qbe) (qow : Nat) (gqow : hx_g L h qow 36) (f_qri_5 : h.2.2 qri 5 = some qow) (qls : Nat) (gqls : hx_g L h qls 35) (f_qri_3 : h.2.2 qri 3 = some qls) (qrs : Nat) (gqrs : hx_g L h qrs 48) (f_x_16 : h.2.2 x 16 = some qrs) (qrg : Nat) (gqrg : hx_g L h qrg 37) (f_qri_6 : h.2.2 qri 6 = some qrg) (pof : Nat → Int32) (af_pqo : h.2.1 pqo = pof) (pdf : Nat → Int32) (af_pqd : h.2.1 pqd = pdf) (psm : Nat → Int32) (af_pqs : h.2.1 pqs = psm) (pkf : Nat → Int32) (af_pqk : h.2.1 pqk = pkf) (pst : Nat → Int32) (af_pqt : h.2.1 pqt = pst) (cn0 : Int32) (f_x_11 : h.2.1 x 11 = cn0) (nw0 : Int32) (f_x_2 : h.2.1 x 2 = nw0) (n0 : Int32) (f_qy_0 : h.2.1 qy 0 = n0) (pn0 : Int32) (f_x_8 : h.2.1 x 8 = pn0) (odf : Nat → Int32) (cl_qc_13 : hx_col 100 h qc 13 = odf) (wkf : Nat → Int32) (cl_qc_14 : hx_col 100 h qc 14 = wkf) (owf : Nat → Int32) (cl_qc_15 : hx_col 100 h qc 15 = owf) (szf : Nat → Int32) (cl_qc_16 : hx_col 100 h qc 16 = szf) (gdf : Nat → Int32) (cl_qc_17 : hx_col 100 h qc 17 = gdf) (svf : Nat → Int32) (cl_qc_18 : hx_col 100 h qc 18 = svf) (nu_qp : hx_num 40 h qp 0 (pn0.toInt)) (nu_qc : hx_num 100 h qc 0 (cn0.toInt)) (agf plf : Nat → Int32) (A : Nat → hv_act) (hDF : hw_DF h qc qp 2 agf cn0.toInt) (hAC : hv_AC h qc plf cn0.toInt A) (hAB : ∀ j : Nat, (∀ k, 0 ≤ (A j).2.1 k ∧ (A j).2.1 k ≤ 9999) ∧ hv_OK (A j).2.2) (hCB : hz_CB odf wkf owf szf gdf svf) (hps : ∀ j, j < 600 → 0 ≤ (psm j).toInt ∧ (psm j).toInt ≤ 610000) (byf : Nat → Int32) (hDP : hw_DF h qc qp 1 byf cn0.toInt) (hag : ∀ c, c < cn0.toInt.toNat → 0 ≤ (agf c).toInt ∧ (agf c).toInt < 40 ∧ 0 ≤ (byf c).toInt ∧ (byf c).toInt < 40) (pf_x_8 : ∀ j : Nat, (j : Int) < (h.2.1 x 8).toInt → h.2.2 qp j ≠ none) (pf_x_11 : ∀ j : Nat, (j : Int) < (h.2.1 x 11).toInt → h.2.2 qc j ≠ none) : Met l yX9_net (Cond.code yX9_net cX9_net 3 (some .int) :: hx_all) ({ frames := 7, cells := 0, slots := 0, locals := 183 }) (va_Pc [.ref x] (hx_B T_tb (P_ty dA) (dC, dI) vwCl L h sz)) (va_Qi (fun (r : Int32) (u : List Nat × hx_h) => (∃ (n1 : Int32) (pof1 : Nat → Int32) (pdf1 : Nat → Int32) (psm1 : Nat → Int32) (pkf1 : Nat → Int32) (pst1 : Nat → Int32) (ct1 : Int32) (lsf1 : Nat → Int32), u.2.2.1 qy 0 = n1 ∧ u.2.2.1 pqo = pof1 ∧ u.2.2.1 pqd = pdf1 ∧ u.2.2.1 pqs = psm1 ∧ u.2.2.1 pqk = pkf1 ∧ u.2.2.1 pqt = pst1 ∧ u.2.2.1 qri 0 = ct1 ∧ u.2.2.1 qls = lsf1 ∧ (hz_NR (hz_RP odf szf gdf owf svf (hz_rc A plf) nw0.toInt) agf byf cn0.toInt.toNat pn0.toInt nw0 ((pof, pdf, psm, pkf, pst, n0.toInt.toNat) : hz_P) ((pof1, pdf1, psm1, pkf1, pst1, n1.toInt.toNat) : hz_P) r.toInt ct1.toInt lsf1)) ∧ hx_T T_tb u.1 u.2 ∧ hx_S T_tb [(3, 0), (7, 0), (7, 1), (7, 2), (7, 4), (22, 0), (23, 0), (24, 0), (25, 0), (26, 0), (35, 0), (36, 0), (37, 0), (38, 0), (48, 0)] L h u.1 u.2) (hx_E T_tb (P_ty dA) (dC, dI) vwCl (hx_A L sz)) (hx_A L sz)) 0 0 (hx_A L sz) := by
  refine hx_met (lv := [(0, .ref x)]) (by decide +kernel) rfl (Nat.le_of_ble_eq_true rfl) rfl ?_
  intro p e s m below meth c hx hb hml hr hlk hts0 hown hin hsz hW ls hl
  have hts : ∀ w ∈ hx_all, w.before _ s = true := fun w hw => hts0 w (List.mem_cons_of_mem _ hw)
  have hown : s.vm.findClass "SmallCourt" = some m.cls := hown
  have hM : hx_S T_tb [(3, 0), (7, 0), (7, 1), (7, 2), (7, 4), (22, 0), (23, 0), (24, 0), (25, 0), (26, 0), (35, 0), (36, 0), (37, 0), (38, 0), (48, 0)] L h L h := hx_S.rf
  have b_cn0 := hT.gi gx tt_9 (k := 11) rfl
  rw [f_x_11] at b_cn0
  have b_cn0 : 0 ≤ cn0.toInt ∧ cn0.toInt ≤ 100 := b_cn0
  have b_nw0 := hT.gi gx tt_9 (k := 2) rfl
  rw [f_x_2] at b_nw0
  have b_nw0 : 0 ≤ nw0.toInt ∧ nw0.toInt ≤ 7999 := b_nw0
  have b_n0 := hT.gi gqy tt_3 (k := 0) rfl
  rw [f_qy_0] at b_n0
  have b_n0 : 0 ≤ n0.toInt ∧ n0.toInt ≤ 600 := b_n0
  have b_pn0 := hT.gi gx tt_9 (k := 8) rfl
  rw [f_x_8] at b_pn0
  have b_pn0 : 0 ≤ pn0.toInt ∧ pn0.toInt ≤ 40 := b_pn0
  have HR9 : hz_HR (hz_RP odf szf gdf owf svf (hz_rc A plf) nw0.toInt) nw0 cn0.toInt.toNat := hz_RP_HR ?o0
  case o0 => omega
  have HN9 : ∀ (P : hz_P) (c : Nat), 0 ≤ (hz_RP odf szf gdf owf svf (hz_rc A plf) nw0.toInt) P c := hz_RP_N
  have HB9 : hz_RB (hz_RP odf szf gdf owf svf (hz_rc A plf) nw0.toInt) cn0.toInt.toNat ((pof, pdf, psm, pkf, pst, n0.toInt.toNat) : hz_P) := fun c hc => hz_Rn_b hCB hps (show n0.toInt.toNat ≤ 600 from ?o1) ?o2 ((hAB _).1 12)
  case o1 => omega
  case o2 => omega
  refine lv_aload_n hx hb dX9_net_0 rfl (lv_at hl 0 rfl) ?_
  refine hk_getr hx hb hts hC_9 hown hW gx tt_9 18 ?o3 rfl kw_382 ⟨rfl, rfl, rfl⟩ f_x_18 dX9_net_1 ?_
  case o3 => decide
  refine lv_aload_n hx hb dX9_net_4 rfl (lv_at hl 0 rfl) ?_
  refine hk_geti hx hb hts hC_9 hown hW gx tt_9 8 ?o4 rfl kw_372 ⟨rfl, rfl, rfl⟩ f_x_8 dX9_net_5 ?_
  case o4 => decide
  have hTo := hT
  obtain ⟨fa_1, nfa_1⟩ : ∃ g : Nat → Int32, h.2.1 qow = g := ⟨_, rfl⟩
  refine hx_gov (hx_runV (As := [.int pn0]) (rest := []) ⟨hx, hb, hml, hown, hts⟩ hW (gqri.S hM) tt_7 (T := TX7) (N := 8) rfl (t_X7_clear_v l dC dI dA L h s.heap.size qri pn0 hT (gqri.S hM) qow (gqow.S hM) ((hM.o gqri trivial rfl).2.trans f_qri_5) fa_1 nfa_1 ⟨?o5, ?o6⟩) (cwV 1 hts (hx_gV kw_988 kw_985 kw_986 kw_987 kw_101) rfl rfl rfl (by decide +kernel) ⟨Nat.le_of_ble_eq_true rfl, Nat.le_of_ble_eq_true rfl⟩) rfl hl.1 rfl (Nat.le_of_ble_eq_true rfl) dX9_net_8 ⟨Nat.le_of_ble_eq_true rfl, Nat.le_of_ble_eq_true rfl⟩) hW (fun L_2 h_3 H locs p_5 hW => ?_)
  case o5 => omega
  case o6 => omega
  obtain ⟨⟨w_7, w_8, w_9, fw_7, fw_8, fw_9, hr_6⟩, hT, hs⟩ := p_5
  replace hT : hx_T T_tb L_2 h_3 := hT
  replace hs : hx_S T_tb [(7, 0), (7, 4), (36, 0)] L h L_2 h_3 := hs
  replace f_x_7 := (hs.o gx trivial rfl).2.trans f_x_7
  replace f_x_10 := (hs.o gx trivial rfl).2.trans f_x_10
  replace f_x_14 := (hs.o gx trivial rfl).2.trans f_x_14
  replace f_x_18 := (hs.o gx trivial rfl).2.trans f_x_18
  replace f_x_16 := (hs.o gx trivial rfl).2.trans f_x_16
  replace f_x_11 := (hs.o gx trivial rfl).1.trans f_x_11
  replace f_x_2 := (hs.o gx trivial rfl).1.trans f_x_2
  replace f_qy_0 := (hs.o (gqy.S hM) trivial rfl).1.trans f_qy_0
  replace f_x_8 := (hs.o gx trivial rfl).1.trans f_x_8
  replace pf_x_8 : ∀ j : Nat, (j : Int) < (h_3.2.1 x 8).toInt → h_3.2.2 qp j ≠ none := by
    intro j hj; rw [(hs.o gx trivial rfl).1] at hj; rw [(hs.a gqp rfl j).2]; exact pf_x_8 j hj
  replace pf_x_11 : ∀ j : Nat, (j : Int) < (h_3.2.1 x 11).toInt → h_3.2.2 qc j ≠ none := by
    intro j hj; rw [(hs.o gx trivial rfl).1] at hj; rw [(hs.a gqc rfl j).2]; exact pf_x_11 j hj
  replace cl_qc_13 : hx_col 100 h_3 qc 13 = odf := (hx_col_S hs hTo gqc tt_45 tt_2 rfl rfl).trans cl_qc_13
  replace cl_qc_14 : hx_col 100 h_3 qc 14 = wkf := (hx_col_S hs hTo gqc tt_45 tt_2 rfl rfl).trans cl_qc_14
  replace cl_qc_15 : hx_col 100 h_3 qc 15 = owf := (hx_col_S hs hTo gqc tt_45 tt_2 rfl rfl).trans cl_qc_15
  replace cl_qc_16 : hx_col 100 h_3 qc 16 = szf := (hx_col_S hs hTo gqc tt_45 tt_2 rfl rfl).trans cl_qc_16
  replace cl_qc_17 : hx_col 100 h_3 qc 17 = gdf := (hx_col_S hs hTo gqc tt_45 tt_2 rfl rfl).trans cl_qc_17
  replace cl_qc_18 : hx_col 100 h_3 qc 18 = svf := (hx_col_S hs hTo gqc tt_45 tt_2 rfl rfl).trans cl_qc_18
  replace nu_qp : hx_num 40 h_3 qp 0 (pn0.toInt) := hx_num_S hs hTo gqp tt_44 tt_4 rfl rfl nu_qp
  replace nu_qc : hx_num 100 h_3 qc 0 (cn0.toInt) := hx_num_S hs hTo gqc tt_45 tt_2 rfl rfl nu_qc
  replace hDF : hw_DF h_3 qc qp 2 agf cn0.toInt := hw_DF_S hs hTo gqc gqp tt_45 tt_2 rfl rfl rfl hDF
  replace hDP : hw_DF h_3 qc qp 1 byf cn0.toInt := hw_DF_S hs hTo gqc gqp tt_45 tt_2 rfl rfl rfl hDP
  replace hAC : hv_AC h_3 qc plf cn0.toInt A := hv_AC_S hs hTo gqc tt_45 tt_2 rfl tt_0 rfl rfl rfl rfl rfl rfl rfl hAC
  replace af_pqo : h_3.2.1 pqo = pof := (funext fun j => (hs.a (gpqo.S hM) rfl j).1).trans af_pqo
  replace af_pqd : h_3.2.1 pqd = pdf := (funext fun j => (hs.a (gpqd.S hM) rfl j).1).trans af_pqd
  replace af_pqs : h_3.2.1 pqs = psm := (funext fun j => (hs.a (gpqs.S hM) rfl j).1).trans af_pqs
  replace af_pqk : h_3.2.1 pqk = pkf := (funext fun j => (hs.a (gpqk.S hM) rfl j).1).trans af_pqk
  replace af_pqt : h_3.2.1 pqt = pst := (funext fun j => (hs.a (gpqt.S hM) rfl j).1).trans af_pqt
  replace hM := hM.tr (hs.mono ?o7)
  case o7 => decide
  replace gx := gx.S hs
  replace gqp := gqp.S hs
  replace gqc := gqc.S hs
  have fw_7 : h_3.2.1 qri 0 = w_7 := fw_7
  have bw_7 := hT.gi (gqri.S hM) tt_7 (k := 0) rfl
  rw [fw_7] at bw_7
  have bw_7 : -1 ≤ w_7.toInt ∧ w_7.toInt ≤ 100 := bw_7
  have fw_8 : h_3.2.1 qri 4 = w_8 := fw_8
  have bw_8 := hT.gi (gqri.S hM) tt_7 (k := 4) rfl
  rw [fw_8] at bw_8
  have bw_8 : 0 ≤ w_8.toInt ∧ w_8.toInt ≤ 40 := bw_8
  have fw_9 : h_3.2.1 qow = w_9 := fw_9
  refine lv_iconst (v := 0) hx hb dX9_net_11 ?o8 ?_
  case o8 => decide
  refine lv_istore_n (lv' := [(1, .int (0 : Int32)), (0, .ref x)]) hx hb dX9_net_12 rfl hl ?o9 rfl (fun ls hl => ?_)
  case o9 => decide
  obtain ⟨fa_10, nfa_10⟩ : ∃ g : Nat → Int32, h_3.2.1 qrs = g := ⟨_, rfl⟩
  have loop13 : ∀ (n13 : Nat) (iv13_1 : Int32) (ia13_qow ia13_qrs : Nat → Int32) (H : Heap) (locs : List Loc) (hL1 : List Nat) (hl1 : hx_h), 0 ≤ iv13_1.toInt → iv13_1.toInt ≤ 100 → (hz_DW ia13_qow ((hz_RP odf szf gdf owf svf (hz_rc A plf) nw0.toInt) ((pof, pdf, psm, pkf, pst, n0.toInt.toNat) : hz_P)) agf byf (iv13_1.toInt).toNat) → (∀ c : Nat, (c : Int) < iv13_1.toInt → (ia13_qrs c).toInt = (hz_RP odf szf gdf owf svf (hz_rc A plf) nw0.toInt) ((pof, pdf, psm, pkf, pst, n0.toInt.toNat) : hz_P) c) → (iv13_1.toInt ≤ cn0.toInt) → ∀ (ls : Array Slot), 100 - iv13_1.toInt < (n13 : Int) → hx_W T_tb (P_ty dA) (dC, dI) vwCl (hx_A L sz) s.heap hL1 hl1 s H locs → hx_T T_tb hL1 hl1 → hx_S T_tb [(3, 0), (7, 0), (7, 1), (7, 2), (7, 4), (22, 0), (23, 0), (24, 0), (25, 0), (26, 0), (35, 0), (36, 0), (37, 0), (38, 0), (48, 0)] L h hL1 hl1 → hl1.2.2 x 7 = some qp → hl1.2.2 x 10 = some qc → hl1.2.2 x 14 = some qy → hl1.2.2 x 18 = some qri → hl1.2.2 x 16 = some qrs → hl1.2.1 x 11 = cn0 → hl1.2.1 x 2 = nw0 → hl1.2.1 qy 0 = n0 → hl1.2.1 x 8 = pn0 → hl1.2.1 qri 0 = w_7 → hl1.2.1 qri 4 = w_8 → hx_g hL1 hl1 x 9 → hx_g hL1 hl1 qp 44 → hx_g hL1 hl1 qc 45 → (∀ j : Nat, (j : Int) < (hl1.2.1 x 8).toInt → hl1.2.2 qp j ≠ none) → (∀ j : Nat, (j : Int) < (hl1.2.1 x 11).toInt → hl1.2.2 qc j ≠ none) → hl1.2.1 qow = ia13_qow → hl1.2.1 qrs = ia13_qrs → hl1.2.1 pqo = pof → hl1.2.1 pqd = pdf → hl1.2.1 pqs = psm → hl1.2.1 pqk = pkf → hl1.2.1 pqt = pst → hx_col 100 hl1 qc 13 = odf → hx_col 100 hl1 qc 14 = wkf → hx_col 100 hl1 qc 15 = owf → hx_col 100 hl1 qc 16 = szf → hx_col 100 hl1 qc 17 = gdf → hx_col 100 hl1 qc 18 = svf → hx_num 40 hl1 qp 0 (pn0.toInt) → hx_num 100 hl1 qc 0 (cn0.toInt) → hw_DF hl1 qc qp 2 agf cn0.toInt → hw_DF hl1 qc qp 1 byf cn0.toInt → hv_AC hl1 qc plf cn0.toInt A → lv_has ls 3 [(1, .int iv13_1), (0, .ref x)] → W p l e ({ frames := 7, cells := 0, slots := 0, locals := 183 }) s m ([.ref x] : List Value).toArray below meth c H locs 0 0 (MQ below (va_Qi (fun (r : Int32) (u : List Nat × hx_h) => (∃ (n1 : Int32) (pof1 : Nat → Int32) (pdf1 : Nat → Int32) (psm1 : Nat → Int32) (pkf1 : Nat → Int32) (pst1 : Nat → Int32) (ct1 : Int32) (lsf1 : Nat → Int32), u.2.2.1 qy 0 = n1 ∧ u.2.2.1 pqo = pof1 ∧ u.2.2.1 pqd = pdf1 ∧ u.2.2.1 pqs = psm1 ∧ u.2.2.1 pqk = pkf1 ∧ u.2.2.1 pqt = pst1 ∧ u.2.2.1 qri 0 = ct1 ∧ u.2.2.1 qls = lsf1 ∧ (hz_NR (hz_RP odf szf gdf owf svf (hz_rc A plf) nw0.toInt) agf byf cn0.toInt.toNat pn0.toInt nw0 ((pof, pdf, psm, pkf, pst, n0.toInt.toNat) : hz_P) ((pof1, pdf1, psm1, pkf1, pst1, n1.toInt.toNat) : hz_P) r.toInt ct1.toInt lsf1)) ∧ hx_T T_tb u.1 u.2 ∧ hx_S T_tb [(3, 0), (7, 0), (7, 1), (7, 2), (7, 4), (22, 0), (23, 0), (24, 0), (25, 0), (26, 0), (35, 0), (36, 0), (37, 0), (38, 0), (48, 0)] L h u.1 u.2) (hx_E T_tb (P_ty dA) (dC, dI) vwCl (hx_A L sz)) (hx_A L sz)) ([.ref x] : List Value).toArray s 0 0 (hx_A L sz)) (F0 m 13 ls []) := by
    intro n13
    induction n13 with
    | zero => intro iv13_1 ia13_qow ia13_qrs H locs hL1 hl1 bliv13_1 buiv13_1 vi13_0 vi13_1 vi13_2 ls hn13; exfalso; omega
    | succ n13 ih13 =>
      intro iv13_1 ia13_qow ia13_qrs H locs hL1 hl1 bliv13_1 buiv13_1 vi13_0 vi13_1 vi13_2 ls hn13 hW hT hM f_x_7 f_x_10 f_x_14 f_x_18 f_x_16 f_x_11 f_x_2 f_qy_0 f_x_8 fw_7 fw_8 gx gqp gqc pf_x_8 pf_x_11 nia13_qow nia13_qrs af_pqo af_pqd af_pqs af_pqk af_pqt cl_qc_13 cl_qc_14 cl_qc_15 cl_qc_16 cl_qc_17 cl_qc_18 nu_qp nu_qc hDF hDP hAC hl
      refine lv_iload_n hx hb dX9_net_13 rfl (lv_at hl 0 rfl) ?_
      refine lv_aload_n hx hb dX9_net_14 rfl (lv_at hl 1 rfl) ?_
      refine hk_geti hx hb hts hC_9 hown hW gx tt_9 11 ?o10 rfl kw_375 ⟨rfl, rfl, rfl⟩ f_x_11 dX9_net_15 ?_
      case o10 => decide
      refine hb_icmp_ge (zx := iv13_1.toInt) (zy := cn0.toInt) (tgt := 83) hx hb rfl rfl dX9_net_18 ?o11 (fun c_11 => ?_) (fun c_11 => ?_)
      case o11 => decide
      · skip
        have hDW8 := vi13_0; rw [show iv13_1.toInt.toNat = cn0.toInt.toNat by omega] at hDW8
        have hrs8 : ∀ c : Nat, (c : Int) < cn0.toInt → (ia13_qrs c).toInt = (hz_RP odf szf gdf owf svf (hz_rc A plf) nw0.toInt) ((pof, pdf, psm, pkf, pst, n0.toInt.toNat) : hz_P) c := fun c hc => vi13_1 c ?o12
        case o12 => omega
        refine lv_iconst (v := 0) hx hb dX9_net_83 ?o13 ?_
        case o13 => decide
        refine lv_istore_n (lv' := [(1, .int (0 : Int32)), (0, .ref x)]) hx hb dX9_net_84 rfl hl ?o14 rfl (fun ls hl => ?_)
        case o14 => decide
        refine lv_iconst (v := 0) hx hb dX9_net_85 ?o15 ?_
        case o15 => decide
        refine lv_istore_n (lv' := [(2, .int (0 : Int32)), (1, .int (0 : Int32)), (0, .ref x)]) hx hb dX9_net_86 rfl hl ?o16 rfl (fun ls hl => ?_)
        case o16 => decide
        obtain ⟨fa_12, nfa_12⟩ : ∃ g : Nat → Int32, hl1.2.1 qls = g := ⟨_, rfl⟩
        have loop87 : ∀ (n87 : Nat) (iv87_1 iv87_2 fw87_qy_0 fw87_qri_0 : Int32) (ia87_pqo ia87_pqd ia87_pqs ia87_pqk ia87_pqt ia87_qrs ia87_qow ia87_qls : Nat → Int32) (H : Heap) (locs : List Loc) (hL1 : List Nat) (hl1 : hx_h), -2147483648 ≤ iv87_1.toInt → iv87_1.toInt ≤ 2147483647 → 0 ≤ iv87_2.toInt → iv87_2.toInt ≤ 100 → 0 ≤ fw87_qy_0.toInt → fw87_qy_0.toInt ≤ 600 → 0 ≤ fw87_qri_0.toInt → fw87_qri_0.toInt ≤ 100 → (∀ j : Nat, j < (iv87_2.toInt).toNat → hz_go (hz_RP odf szf gdf owf svf (hz_rc A plf) nw0.toInt) agf byf cn0.toInt.toNat pn0.toInt (hz_it (hz_RP odf szf gdf owf svf (hz_rc A plf) nw0.toInt) agf byf cn0.toInt.toNat pn0.toInt nw0 ((pof, pdf, psm, pkf, pst, n0.toInt.toNat) : hz_P) j)) → (((ia87_pqo, ia87_pqd, ia87_pqs, ia87_pqk, ia87_pqt, (fw87_qy_0.toInt).toNat) : hz_P) = (hz_it (hz_RP odf szf gdf owf svf (hz_rc A plf) nw0.toInt) agf byf cn0.toInt.toNat pn0.toInt nw0 ((pof, pdf, psm, pkf, pst, n0.toInt.toNat) : hz_P) (iv87_2.toInt).toNat)) → (iv87_1.toInt = (hz_sa2 (hz_RP odf szf gdf owf svf (hz_rc A plf) nw0.toInt) agf byf cn0.toInt.toNat pn0.toInt nw0 ((pof, pdf, psm, pkf, pst, n0.toInt.toNat) : hz_P) (iv87_2.toInt).toNat).toInt) → (fw87_qri_0.toInt = iv87_2.toInt) → (∀ j : Nat, j < (iv87_2.toInt).toNat → (ia87_qls j).toInt = (hz_be (hz_RP odf szf gdf owf svf (hz_rc A plf) nw0.toInt) agf byf cn0.toInt.toNat pn0.toInt (hz_it (hz_RP odf szf gdf owf svf (hz_rc A plf) nw0.toInt) agf byf cn0.toInt.toNat pn0.toInt nw0 ((pof, pdf, psm, pkf, pst, n0.toInt.toNat) : hz_P) j)).1) → (hz_DW ia87_qow ((hz_RP odf szf gdf owf svf (hz_rc A plf) nw0.toInt) ((ia87_pqo, ia87_pqd, ia87_pqs, ia87_pqk, ia87_pqt, (fw87_qy_0.toInt).toNat) : hz_P)) agf byf cn0.toInt.toNat) → (∀ c : Nat, (c : Int) < cn0.toInt → (ia87_qrs c).toInt = (hz_RP odf szf gdf owf svf (hz_rc A plf) nw0.toInt) ((ia87_pqo, ia87_pqd, ia87_pqs, ia87_pqk, ia87_pqt, (fw87_qy_0.toInt).toNat) : hz_P) c) → ∀ (ls : Array Slot), 100 - iv87_2.toInt < (n87 : Int) → hx_W T_tb (P_ty dA) (dC, dI) vwCl (hx_A L sz) s.heap hL1 hl1 s H locs → hx_T T_tb hL1 hl1 → hx_S T_tb [(3, 0), (7, 0), (7, 1), (7, 2), (7, 4), (22, 0), (23, 0), (24, 0), (25, 0), (26, 0), (35, 0), (36, 0), (37, 0), (38, 0), (48, 0)] L h hL1 hl1 → hl1.2.1 qy 0 = fw87_qy_0 → hl1.2.1 qri 0 = fw87_qri_0 → hl1.2.2 x 7 = some qp → hl1.2.2 x 10 = some qc → hl1.2.2 x 14 = some qy → hl1.2.2 x 18 = some qri → hl1.2.2 x 16 = some qrs → hl1.2.1 x 11 = cn0 → hl1.2.1 x 2 = nw0 → hl1.2.1 x 8 = pn0 → hl1.2.1 qri 4 = w_8 → hx_g hL1 hl1 x 9 → hx_g hL1 hl1 qp 44 → hx_g hL1 hl1 qc 45 → (∀ j : Nat, (j : Int) < (hl1.2.1 x 8).toInt → hl1.2.2 qp j ≠ none) → (∀ j : Nat, (j : Int) < (hl1.2.1 x 11).toInt → hl1.2.2 qc j ≠ none) → hl1.2.1 pqo = ia87_pqo → hl1.2.1 pqd = ia87_pqd → hl1.2.1 pqs = ia87_pqs → hl1.2.1 pqk = ia87_pqk → hl1.2.1 pqt = ia87_pqt → hl1.2.1 qrs = ia87_qrs → hl1.2.1 qow = ia87_qow → hl1.2.1 qls = ia87_qls → hx_col 100 hl1 qc 13 = odf → hx_col 100 hl1 qc 14 = wkf → hx_col 100 hl1 qc 15 = owf → hx_col 100 hl1 qc 16 = szf → hx_col 100 hl1 qc 17 = gdf → hx_col 100 hl1 qc 18 = svf → hx_num 40 hl1 qp 0 (pn0.toInt) → hx_num 100 hl1 qc 0 (cn0.toInt) → hw_DF hl1 qc qp 2 agf cn0.toInt → hw_DF hl1 qc qp 1 byf cn0.toInt → hv_AC hl1 qc plf cn0.toInt A → lv_has ls 3 [(2, .int iv87_2), (1, .int iv87_1), (0, .ref x)] → W p l e ({ frames := 7, cells := 0, slots := 0, locals := 183 }) s m ([.ref x] : List Value).toArray below meth c H locs 0 0 (MQ below (va_Qi (fun (r : Int32) (u : List Nat × hx_h) => (∃ (n1 : Int32) (pof1 : Nat → Int32) (pdf1 : Nat → Int32) (psm1 : Nat → Int32) (pkf1 : Nat → Int32) (pst1 : Nat → Int32) (ct1 : Int32) (lsf1 : Nat → Int32), u.2.2.1 qy 0 = n1 ∧ u.2.2.1 pqo = pof1 ∧ u.2.2.1 pqd = pdf1 ∧ u.2.2.1 pqs = psm1 ∧ u.2.2.1 pqk = pkf1 ∧ u.2.2.1 pqt = pst1 ∧ u.2.2.1 qri 0 = ct1 ∧ u.2.2.1 qls = lsf1 ∧ (hz_NR (hz_RP odf szf gdf owf svf (hz_rc A plf) nw0.toInt) agf byf cn0.toInt.toNat pn0.toInt nw0 ((pof, pdf, psm, pkf, pst, n0.toInt.toNat) : hz_P) ((pof1, pdf1, psm1, pkf1, pst1, n1.toInt.toNat) : hz_P) r.toInt ct1.toInt lsf1)) ∧ hx_T T_tb u.1 u.2 ∧ hx_S T_tb [(3, 0), (7, 0), (7, 1), (7, 2), (7, 4), (22, 0), (23, 0), (24, 0), (25, 0), (26, 0), (35, 0), (36, 0), (37, 0), (38, 0), (48, 0)] L h u.1 u.2) (hx_E T_tb (P_ty dA) (dC, dI) vwCl (hx_A L sz)) (hx_A L sz)) ([.ref x] : List Value).toArray s 0 0 (hx_A L sz)) (F0 m 87 ls []) := by
          intro n87
          induction n87 with
          | zero => intro iv87_1 iv87_2 fw87_qy_0 fw87_qri_0 ia87_pqo ia87_pqd ia87_pqs ia87_pqk ia87_pqt ia87_qrs ia87_qow ia87_qls H locs hL1 hl1 bliv87_1 buiv87_1 bliv87_2 buiv87_2 blfw87_qy_0 bufw87_qy_0 blfw87_qri_0 bufw87_qri_0 vi87_0 vi87_1 vi87_2 vi87_3 vi87_4 vi87_5 vi87_6 ls hn87; exfalso; omega
          | succ n87 ih87 =>
            intro iv87_1 iv87_2 fw87_qy_0 fw87_qri_0 ia87_pqo ia87_pqd ia87_pqs ia87_pqk ia87_pqt ia87_qrs ia87_qow ia87_qls H locs hL1 hl1 bliv87_1 buiv87_1 bliv87_2 buiv87_2 blfw87_qy_0 bufw87_qy_0 blfw87_qri_0 bufw87_qri_0 vi87_0 vi87_1 vi87_2 vi87_3 vi87_4 vi87_5 vi87_6 ls hn87 hW hT hM ffw87_qy_0 ffw87_qri_0 f_x_7 f_x_10 f_x_14 f_x_18 f_x_16 f_x_11 f_x_2 f_x_8 fw_8 gx gqp gqc pf_x_8 pf_x_11 nia87_pqo nia87_pqd nia87_pqs nia87_pqk nia87_pqt nia87_qrs nia87_qow nia87_qls cl_qc_13 cl_qc_14 cl_qc_15 cl_qc_16 cl_qc_17 cl_qc_18 nu_qp nu_qc hDF hDP hAC hl
            have HBk9 := (hz_it_1 HR9 HN9 HB9 hag ⟨by omega, by omega⟩ iv87_2.toInt.toNat vi87_0).1; rw [← vi87_1] at HBk9
            refine lv_iload_n hx hb dX9_net_87 rfl (lv_at hl 0 rfl) ?_
            refine lv_bipush (v := 100) hx hb dX9_net_88 ?o17 ?_
            case o17 => decide
            refine hb_icmp_ge (zx := iv87_2.toInt) (zy := 100) (tgt := 134) hx hb rfl ?o18 dX9_net_90 ?o19 (fun c_13 => ?_) (fun c_13 => ?_)
            case o18 => decide
            case o19 => decide
            · skip
              refine lv_iload_n hx hb dX9_net_134 rfl (lv_at hl 1 rfl) ?_
              refine hx_reti hx hb hr hlk hW ⟨⟨fw87_qy_0, ia87_pqo, ia87_pqd, ia87_pqs, ia87_pqk, ia87_pqt, fw87_qri_0, ia87_qls, ffw87_qy_0, nia87_pqo, nia87_pqd, nia87_pqs, nia87_pqk, nia87_pqt, ffw87_qri_0, nia87_qls, ⟨iv87_2.toInt.toNat, ⟨vi87_0, (hz_it_end HR9 HN9 HB9 hag ⟨?o20, ?o21⟩ vi87_0 ?o22)⟩, vi87_1, vi87_2, ?o23, vi87_4⟩⟩, hT, hM⟩ dX9_net_135
              case o20 => omega
              case o21 => omega
              case o22 => omega
              case o23 => omega
            · skip
              refine lv_aload_n hx hb dX9_net_93 rfl (lv_at hl 2 rfl) ?_
              refine hk_getr hx hb hts hC_9 hown hW gx tt_9 18 ?o24 rfl kw_382 ⟨rfl, rfl, rfl⟩ f_x_18 dX9_net_94 ?_
              case o24 => decide
              have hTo := hT
              obtain ⟨fa_14, nfa_14⟩ : ∃ g : Nat → Int32, hl1.2.1 qrg = g := ⟨_, rfl⟩
              obtain ⟨fa_15, nfa_15⟩ : ∃ g : Nat → Int32, hl1.2.1 qbe = g := ⟨_, rfl⟩
              refine hx_goi (hx_runV (As := []) (rest := []) ⟨hx, hb, hml, hown, hts⟩ hW (gqri.S hM) tt_7 (T := TX7) (N := 8) rfl (t_X7_findBest_v l dC dI dA hL1 hl1 H.size qri hT (gqri.S hM) qow (gqow.S hM) ((hM.o gqri trivial rfl).2.trans f_qri_5) qrg (gqrg.S hM) ((hM.o gqri trivial rfl).2.trans f_qri_6) qbe (gqbe.S hM) ((hM.o gqri trivial rfl).2.trans f_qri_7) ia87_qow nia87_qow fa_14 nfa_14 fa_15 nfa_15 w_8 fw_8 (hz_V ((hz_RP odf szf gdf owf svf (hz_rc A plf) nw0.toInt) ((ia87_pqo, ia87_pqd, ia87_pqs, ia87_pqk, ia87_pqt, fw87_qy_0.toInt.toNat) : hz_P)) agf byf cn0.toInt.toNat) vi87_5 (fun x => hz_V_ub (fun c hc => HBk9 c hc) ?o25 x)) (cwV 0 hts (hx_gV kw_996 kw_993 kw_994 kw_995 kw_101) rfl rfl rfl (by decide +kernel) ⟨Nat.le_of_ble_eq_true rfl, Nat.le_of_ble_eq_true rfl⟩) rfl hl.1 rfl (Nat.le_of_ble_eq_true rfl) dX9_net_97 ⟨Nat.le_of_ble_eq_true rfl, Nat.le_of_ble_eq_true rfl⟩) hW (fun r_18 L_16 h_17 H locs p_19 hW => ?_)
              case o25 => omega
              obtain ⟨⟨w_21, w_22, w_23, fw_21, fw_22, fw_23, hr_20⟩, hT, hs⟩ := p_19
              replace hT : hx_T T_tb L_16 h_17 := hT
              replace hs : hx_S T_tb [(7, 1), (7, 2), (37, 0), (38, 0)] hL1 hl1 L_16 h_17 := hs
              replace f_x_7 := (hs.o gx trivial rfl).2.trans f_x_7
              replace f_x_10 := (hs.o gx trivial rfl).2.trans f_x_10
              replace f_x_14 := (hs.o gx trivial rfl).2.trans f_x_14
              replace f_x_18 := (hs.o gx trivial rfl).2.trans f_x_18
              replace f_x_16 := (hs.o gx trivial rfl).2.trans f_x_16
              replace f_x_11 := (hs.o gx trivial rfl).1.trans f_x_11
              replace f_x_2 := (hs.o gx trivial rfl).1.trans f_x_2
              replace f_x_8 := (hs.o gx trivial rfl).1.trans f_x_8
              replace fw_8 := (hs.o (gqri.S hM) trivial rfl).1.trans fw_8
              replace ffw87_qy_0 := (hs.o (gqy.S hM) trivial rfl).1.trans ffw87_qy_0
              replace ffw87_qri_0 := (hs.o (gqri.S hM) trivial rfl).1.trans ffw87_qri_0
              replace pf_x_8 : ∀ j : Nat, (j : Int) < (h_17.2.1 x 8).toInt → h_17.2.2 qp j ≠ none := by
                intro j hj; rw [(hs.o gx trivial rfl).1] at hj; rw [(hs.a gqp rfl j).2]; exact pf_x_8 j hj
              replace pf_x_11 : ∀ j : Nat, (j : Int) < (h_17.2.1 x 11).toInt → h_17.2.2 qc j ≠ none := by
                intro j hj; rw [(hs.o gx trivial rfl).1] at hj; rw [(hs.a gqc rfl j).2]; exact pf_x_11 j hj
              replace cl_qc_13 : hx_col 100 h_17 qc 13 = odf := (hx_col_S hs hTo gqc tt_45 tt_2 rfl rfl).trans cl_qc_13
              replace cl_qc_14 : hx_col 100 h_17 qc 14 = wkf := (hx_col_S hs hTo gqc tt_45 tt_2 rfl rfl).trans cl_qc_14
              replace cl_qc_15 : hx_col 100 h_17 qc 15 = owf := (hx_col_S hs hTo gqc tt_45 tt_2 rfl rfl).trans cl_qc_15
              replace cl_qc_16 : hx_col 100 h_17 qc 16 = szf := (hx_col_S hs hTo gqc tt_45 tt_2 rfl rfl).trans cl_qc_16
              replace cl_qc_17 : hx_col 100 h_17 qc 17 = gdf := (hx_col_S hs hTo gqc tt_45 tt_2 rfl rfl).trans cl_qc_17
              replace cl_qc_18 : hx_col 100 h_17 qc 18 = svf := (hx_col_S hs hTo gqc tt_45 tt_2 rfl rfl).trans cl_qc_18
              replace nu_qp : hx_num 40 h_17 qp 0 (pn0.toInt) := hx_num_S hs hTo gqp tt_44 tt_4 rfl rfl nu_qp
              replace nu_qc : hx_num 100 h_17 qc 0 (cn0.toInt) := hx_num_S hs hTo gqc tt_45 tt_2 rfl rfl nu_qc
              replace hDF : hw_DF h_17 qc qp 2 agf cn0.toInt := hw_DF_S hs hTo gqc gqp tt_45 tt_2 rfl rfl rfl hDF
              replace hDP : hw_DF h_17 qc qp 1 byf cn0.toInt := hw_DF_S hs hTo gqc gqp tt_45 tt_2 rfl rfl rfl hDP
              replace hAC : hv_AC h_17 qc plf cn0.toInt A := hv_AC_S hs hTo gqc tt_45 tt_2 rfl tt_0 rfl rfl rfl rfl rfl rfl rfl hAC
              replace nia87_pqo : h_17.2.1 pqo = ia87_pqo := (funext fun j => (hs.a (gpqo.S hM) rfl j).1).trans nia87_pqo
              replace nia87_pqd : h_17.2.1 pqd = ia87_pqd := (funext fun j => (hs.a (gpqd.S hM) rfl j).1).trans nia87_pqd
              replace nia87_pqs : h_17.2.1 pqs = ia87_pqs := (funext fun j => (hs.a (gpqs.S hM) rfl j).1).trans nia87_pqs
              replace nia87_pqk : h_17.2.1 pqk = ia87_pqk := (funext fun j => (hs.a (gpqk.S hM) rfl j).1).trans nia87_pqk
              replace nia87_pqt : h_17.2.1 pqt = ia87_pqt := (funext fun j => (hs.a (gpqt.S hM) rfl j).1).trans nia87_pqt
              replace nia87_qrs : h_17.2.1 qrs = ia87_qrs := (funext fun j => (hs.a (gqrs.S hM) rfl j).1).trans nia87_qrs
              replace nia87_qow : h_17.2.1 qow = ia87_qow := (funext fun j => (hs.a (gqow.S hM) rfl j).1).trans nia87_qow
              replace nia87_qls : h_17.2.1 qls = ia87_qls := (funext fun j => (hs.a (gqls.S hM) rfl j).1).trans nia87_qls
              replace hM := hM.tr (hs.mono ?o26)
              case o26 => decide
              replace gx := gx.S hs
              replace gqp := gqp.S hs
              replace gqc := gqc.S hs
              have fw_21 : h_17.2.1 qri 2 = w_21 := fw_21
              have bw_21 := hT.gi (gqri.S hM) tt_7 (k := 2) rfl
              rw [fw_21] at bw_21
              have bw_21 : -2147483648 ≤ w_21.toInt ∧ w_21.toInt ≤ 2147483647 := bw_21
              have fw_22 : h_17.2.1 qri 1 = w_22 := fw_22
              have bw_22 := hT.gi (gqri.S hM) tt_7 (k := 1) rfl
              rw [fw_22] at bw_22
              have bw_22 : 0 ≤ w_22.toInt ∧ w_22.toInt ≤ 4 := bw_22
              have fw_23 : h_17.2.1 qbe = w_23 := fw_23
              have hS9 : hz_SR (hz_be (hz_RP odf szf gdf owf svf (hz_rc A plf) nw0.toInt) agf byf cn0.toInt.toNat pn0.toInt ((ia87_pqo, ia87_pqd, ia87_pqs, ia87_pqk, ia87_pqt, fw87_qy_0.toInt.toNat) : hz_P)) w_21.toInt w_22.toInt w_23 := ?o27
              case o27 =>
                have h9 := hr_20.1
                rw [show w_8.toInt = pn0.toInt from congrArg Int32.toInt hr_6.2.1] at h9
                exact h9
              have be1 := hS9.1; have be2 := hS9.2.1; have hfb9 := hr_20.2
              have hbs9 := hS9.2.2.1
              refine hb_if_eq (zx := r_18.toInt) (tgt := 134) hx hb rfl dX9_net_100 ?o28 (fun c_24 => ?_) (fun c_24 => ?_)
              case o28 => decide
              · skip
                refine lv_iload_n hx hb dX9_net_134 rfl (lv_at hl 1 rfl) ?_
                refine hx_reti hx hb hr hlk hW ⟨⟨fw87_qy_0, ia87_pqo, ia87_pqd, ia87_pqs, ia87_pqk, ia87_pqt, fw87_qri_0, ia87_qls, ffw87_qy_0, nia87_pqo, nia87_pqd, nia87_pqs, nia87_pqk, nia87_pqt, ffw87_qri_0, nia87_qls, ⟨iv87_2.toInt.toNat, ⟨vi87_0, (by rw [← vi87_1]; exact fun z9 => by have z8 := z9.1; rw [be2] at z8; omega)⟩, vi87_1, vi87_2, ?o29, vi87_4⟩⟩, hT, hM⟩ dX9_net_135
                case o29 => omega
              · skip
                have hpos9 : 0 < w_22.toInt := ?o30
                case o30 => omega
                have hRI9 := hz_be_RI HN9 (fun c hc => (hag c hc).2.2) ⟨?o31, ?o32⟩ hS9 hpos9
                case o31 => omega
                case o32 => omega
                have hl19 := hRI9.1
                refine lv_aload_n hx hb dX9_net_103 rfl (lv_at hl 2 rfl) ?_
                have hTo := hT
                refine hx_goi (hx_runV (As := []) (rest := []) ⟨hx, hb, hml, hown, hts⟩ hW gx tt_9 (T := TX9) (N := 20) rfl (t_X9_ringNeeds_v l dC dI dA L_16 h_17 H.size x hT gx qp gqp f_x_7 qc gqc f_x_10 qri (gqri.S hM) f_x_18 qbe (gqbe.S hM) ((hM.o gqri trivial rfl).2.trans f_qri_7) qrs (gqrs.S hM) f_x_16 w_23 fw_23 ia87_qrs nia87_qrs cn0 f_x_11 pn0 f_x_8 w_22 fw_22 w_21 fw_21 nu_qp nu_qc agf byf hDF hDP ((hz_RP odf szf gdf owf svf (hz_rc A plf) nw0.toInt) ((ia87_pqo, ia87_pqd, ia87_pqs, ia87_pqk, ia87_pqt, fw87_qy_0.toInt.toNat) : hz_P)) vi87_6 (fun c hc => HBk9 c ?o33) (hz_be (hz_RP odf szf gdf owf svf (hz_rc A plf) nw0.toInt) agf byf cn0.toInt.toNat pn0.toInt ((ia87_pqo, ia87_pqd, ia87_pqs, ia87_pqk, ia87_pqt, fw87_qy_0.toInt.toNat) : hz_P)).2.2 hS9.2.2.2 hl19 pf_x_8 pf_x_11) (cwV 0 hts (hx_gV kw_1015 kw_1012 kw_1014 kw_39 kw_94) rfl rfl rfl (by decide +kernel) ⟨Nat.le_of_ble_eq_true rfl, Nat.le_of_ble_eq_true rfl⟩) rfl hl.1 rfl (Nat.le_of_ble_eq_true rfl) dX9_net_104 ⟨Nat.le_of_ble_eq_true rfl, Nat.le_of_ble_eq_true rfl⟩) hW (fun r_27 L_25 h_26 H locs p_28 hW => ?_)
                case o33 => omega
                obtain ⟨hr_29, hT, hs⟩ := p_28
                replace hT : hx_T T_tb L_25 h_26 := hT
                replace hs : hx_S T_tb [] L_16 h_17 L_25 h_26 := hs
                replace f_x_7 := (hs.o gx trivial rfl).2.trans f_x_7
                replace f_x_10 := (hs.o gx trivial rfl).2.trans f_x_10
                replace f_x_14 := (hs.o gx trivial rfl).2.trans f_x_14
                replace f_x_18 := (hs.o gx trivial rfl).2.trans f_x_18
                replace f_x_16 := (hs.o gx trivial rfl).2.trans f_x_16
                replace f_x_11 := (hs.o gx trivial rfl).1.trans f_x_11
                replace f_x_2 := (hs.o gx trivial rfl).1.trans f_x_2
                replace f_x_8 := (hs.o gx trivial rfl).1.trans f_x_8
                replace fw_8 := (hs.o (gqri.S hM) trivial rfl).1.trans fw_8
                replace ffw87_qy_0 := (hs.o (gqy.S hM) trivial rfl).1.trans ffw87_qy_0
                replace ffw87_qri_0 := (hs.o (gqri.S hM) trivial rfl).1.trans ffw87_qri_0
                replace fw_21 := (hs.o (gqri.S hM) trivial rfl).1.trans fw_21
                replace fw_22 := (hs.o (gqri.S hM) trivial rfl).1.trans fw_22
                replace pf_x_8 : ∀ j : Nat, (j : Int) < (h_26.2.1 x 8).toInt → h_26.2.2 qp j ≠ none := by
                  intro j hj; rw [(hs.o gx trivial rfl).1] at hj; rw [(hs.a gqp rfl j).2]; exact pf_x_8 j hj
                replace pf_x_11 : ∀ j : Nat, (j : Int) < (h_26.2.1 x 11).toInt → h_26.2.2 qc j ≠ none := by
                  intro j hj; rw [(hs.o gx trivial rfl).1] at hj; rw [(hs.a gqc rfl j).2]; exact pf_x_11 j hj
                replace cl_qc_13 : hx_col 100 h_26 qc 13 = odf := (hx_col_S hs hTo gqc tt_45 tt_2 rfl rfl).trans cl_qc_13
                replace cl_qc_14 : hx_col 100 h_26 qc 14 = wkf := (hx_col_S hs hTo gqc tt_45 tt_2 rfl rfl).trans cl_qc_14
                replace cl_qc_15 : hx_col 100 h_26 qc 15 = owf := (hx_col_S hs hTo gqc tt_45 tt_2 rfl rfl).trans cl_qc_15
                replace cl_qc_16 : hx_col 100 h_26 qc 16 = szf := (hx_col_S hs hTo gqc tt_45 tt_2 rfl rfl).trans cl_qc_16
                replace cl_qc_17 : hx_col 100 h_26 qc 17 = gdf := (hx_col_S hs hTo gqc tt_45 tt_2 rfl rfl).trans cl_qc_17
                replace cl_qc_18 : hx_col 100 h_26 qc 18 = svf := (hx_col_S hs hTo gqc tt_45 tt_2 rfl rfl).trans cl_qc_18
                replace nu_qp : hx_num 40 h_26 qp 0 (pn0.toInt) := hx_num_S hs hTo gqp tt_44 tt_4 rfl rfl nu_qp
                replace nu_qc : hx_num 100 h_26 qc 0 (cn0.toInt) := hx_num_S hs hTo gqc tt_45 tt_2 rfl rfl nu_qc
                replace hDF : hw_DF h_26 qc qp 2 agf cn0.toInt := hw_DF_S hs hTo gqc gqp tt_45 tt_2 rfl rfl rfl hDF
                replace hDP : hw_DF h_26 qc qp 1 byf cn0.toInt := hw_DF_S hs hTo gqc gqp tt_45 tt_2 rfl rfl rfl hDP
                replace hAC : hv_AC h_26 qc plf cn0.toInt A := hv_AC_S hs hTo gqc tt_45 tt_2 rfl tt_0 rfl rfl rfl rfl rfl rfl rfl hAC
                replace nia87_pqo : h_26.2.1 pqo = ia87_pqo := (funext fun j => (hs.a (gpqo.S hM) rfl j).1).trans nia87_pqo
                replace nia87_pqd : h_26.2.1 pqd = ia87_pqd := (funext fun j => (hs.a (gpqd.S hM) rfl j).1).trans nia87_pqd
                replace nia87_pqs : h_26.2.1 pqs = ia87_pqs := (funext fun j => (hs.a (gpqs.S hM) rfl j).1).trans nia87_pqs
                replace nia87_pqk : h_26.2.1 pqk = ia87_pqk := (funext fun j => (hs.a (gpqk.S hM) rfl j).1).trans nia87_pqk
                replace nia87_pqt : h_26.2.1 pqt = ia87_pqt := (funext fun j => (hs.a (gpqt.S hM) rfl j).1).trans nia87_pqt
                replace nia87_qrs : h_26.2.1 qrs = ia87_qrs := (funext fun j => (hs.a (gqrs.S hM) rfl j).1).trans nia87_qrs
                replace nia87_qow : h_26.2.1 qow = ia87_qow := (funext fun j => (hs.a (gqow.S hM) rfl j).1).trans nia87_qow
                replace nia87_qls : h_26.2.1 qls = ia87_qls := (funext fun j => (hs.a (gqls.S hM) rfl j).1).trans nia87_qls
                replace fw_23 : h_26.2.1 qbe = w_23 := (funext fun j => (hs.a (gqbe.S hM) rfl j).1).trans fw_23
                replace hM := hM.tr (hs.mono ?o34)
                case o34 => decide
                replace gx := gx.S hs
                replace gqp := gqp.S hs
                replace gqc := gqc.S hs
                have hgi9 := hz_go_i (m := fw87_qy_0.toInt.toNat) be1 be2 rfl hr_29.1
                refine lv_sipush (v := 600) hx hb dX9_net_107 ?o35 ?_
                case o35 => decide
                refine lv_aload_n hx hb dX9_net_110 rfl (lv_at hl 2 rfl) ?_
                refine hk_getr hx hb hts hC_9 hown hW gx tt_9 14 ?o36 rfl kw_378 ⟨rfl, rfl, rfl⟩ f_x_14 dX9_net_111 ?_
                case o36 => decide
                refine hk_geti hx hb hts hC_3 hown hW (gqy.S hM) tt_3 0 ?o37 rfl kw_232 ⟨rfl, rfl, rfl⟩ ffw87_qy_0 dX9_net_114 ?_
                case o37 => decide
                refine lv_isub hx hb dX9_net_117 ?_
                have rg_30 := i32_r fw87_qy_0
                refine lv_topi (fun x_31 ex_31 => ?_)
                have zx_31 : x_31.toInt = 600 - fw87_qy_0.toInt := ?o38
                case o38 =>
                  rw [ex_31]
                  refine i32_sub ?o39 rfl ?o40 ?o41
                  case o39 => decide
                  case o40 => omega
                  case o41 => omega
                refine hb_icmp_gt (zx := r_27.toInt) (zy := x_31.toInt) (tgt := 134) hx hb rfl rfl dX9_net_118 ?o42 (fun c_32 => ?_) (fun c_32 => ?_)
                case o42 => decide
                · skip
                  refine lv_iload_n hx hb dX9_net_134 rfl (lv_at hl 1 rfl) ?_
                  refine hx_reti hx hb hr hlk hW ⟨⟨fw87_qy_0, ia87_pqo, ia87_pqd, ia87_pqs, ia87_pqk, ia87_pqt, fw87_qri_0, ia87_qls, ffw87_qy_0, nia87_pqo, nia87_pqd, nia87_pqs, nia87_pqk, nia87_pqt, ffw87_qri_0, nia87_qls, ⟨iv87_2.toInt.toNat, ⟨vi87_0, (by rw [← vi87_1]; exact fun z9 => by have z8 := (hgi9.mp z9).2; omega)⟩, vi87_1, vi87_2, ?o43, vi87_4⟩⟩, hT, hM⟩ dX9_net_135
                  case o43 => omega
                · skip
                  refine lv_iload_n hx hb dX9_net_121 rfl (lv_at hl 1 rfl) ?_
                  refine lv_aload_n hx hb dX9_net_122 rfl (lv_at hl 2 rfl) ?_
                  have hgo9 := hgi9.mpr ⟨hpos9, ?o44⟩
                  case o44 => omega
                  have hTo := hT
                  refine hx_goi (hx_runV (As := []) (rest := [.int iv87_1]) ⟨hx, hb, hml, hown, hts⟩ hW gx tt_9 (T := TX9) (N := 20) rfl (t_X9_takeOffRing_v l dC dI dA L_25 h_26 H.size x hT gx qp gqp f_x_7 qc gqc f_x_10 qy (gqy.S hM) f_x_14 pqo (gpqo.S hM) ((hM.o gqy trivial rfl).2.trans f_qy_2) pqd (gpqd.S hM) ((hM.o gqy trivial rfl).2.trans f_qy_3) pqs (gpqs.S hM) ((hM.o gqy trivial rfl).2.trans f_qy_5) pqk (gpqk.S hM) ((hM.o gqy trivial rfl).2.trans f_qy_4) pqt (gpqt.S hM) ((hM.o gqy trivial rfl).2.trans f_qy_1) qri (gqri.S hM) f_x_18 qbe (gqbe.S hM) ((hM.o gqri trivial rfl).2.trans f_qri_7) qow (gqow.S hM) ((hM.o gqri trivial rfl).2.trans f_qri_5) qls (gqls.S hM) ((hM.o gqri trivial rfl).2.trans f_qri_3) qrs (gqrs.S hM) f_x_16 w_23 fw_23 ia87_qrs nia87_qrs ia87_qow nia87_qow ia87_qls nia87_qls ia87_pqo nia87_pqo ia87_pqd nia87_pqd ia87_pqs nia87_pqs ia87_pqk nia87_pqk ia87_pqt nia87_pqt cn0 f_x_11 pn0 f_x_8 w_22 fw_22 w_21 fw_21 fw87_qri_0 ffw87_qri_0 nw0 f_x_2 fw87_qy_0 ffw87_qy_0 nu_qp nu_qc agf byf hDF hDP (hz_RP odf szf gdf owf svf (hz_rc A plf) nw0.toInt) HR9 HN9 HBk9 vi87_6 (hz_be (hz_RP odf szf gdf owf svf (hz_rc A plf) nw0.toInt) agf byf cn0.toInt.toNat pn0.toInt ((ia87_pqo, ia87_pqd, ia87_pqs, ia87_pqk, ia87_pqt, fw87_qy_0.toInt.toNat) : hz_P)).2.2 hS9.2.2.2 hRI9 vi87_5 (by rw [← hr_29.1]; omega) ⟨?o45, ?o46⟩ hag pf_x_8 pf_x_11) (cwV 0 hts (hx_gV kw_1027 kw_1024 kw_1026 kw_41 kw_94) rfl rfl rfl (by decide +kernel) ⟨Nat.le_of_ble_eq_true rfl, Nat.le_of_ble_eq_true rfl⟩) rfl hl.1 rfl (Nat.le_of_ble_eq_true rfl) dX9_net_123 ⟨Nat.le_of_ble_eq_true rfl, Nat.le_of_ble_eq_true rfl⟩) hW (fun r_35 L_33 h_34 H locs p_36 hW => ?_)
                  case o45 => omega
                  case o46 => omega
                  obtain ⟨⟨w_38, w_39, w_40, w_41, w_42, w_43, w_44, w_45, w_46, w_47, fw_38, fw_39, fw_40, fw_41, fw_42, fw_43, fw_44, fw_45, fw_46, fw_47, hr_37⟩, hT, hs⟩ := p_36
                  replace hT : hx_T T_tb L_33 h_34 := hT
                  replace hs : hx_S T_tb [(3, 0), (7, 0), (22, 0), (23, 0), (24, 0), (25, 0), (26, 0), (35, 0), (36, 0), (48, 0)] L_25 h_26 L_33 h_34 := hs
                  replace f_x_7 := (hs.o gx trivial rfl).2.trans f_x_7
                  replace f_x_10 := (hs.o gx trivial rfl).2.trans f_x_10
                  replace f_x_14 := (hs.o gx trivial rfl).2.trans f_x_14
                  replace f_x_18 := (hs.o gx trivial rfl).2.trans f_x_18
                  replace f_x_16 := (hs.o gx trivial rfl).2.trans f_x_16
                  replace f_x_11 := (hs.o gx trivial rfl).1.trans f_x_11
                  replace f_x_2 := (hs.o gx trivial rfl).1.trans f_x_2
                  replace f_x_8 := (hs.o gx trivial rfl).1.trans f_x_8
                  replace fw_8 := (hs.o (gqri.S hM) trivial rfl).1.trans fw_8
                  replace fw_21 := (hs.o (gqri.S hM) trivial rfl).1.trans fw_21
                  replace fw_22 := (hs.o (gqri.S hM) trivial rfl).1.trans fw_22
                  replace pf_x_8 : ∀ j : Nat, (j : Int) < (h_34.2.1 x 8).toInt → h_34.2.2 qp j ≠ none := by
                    intro j hj; rw [(hs.o gx trivial rfl).1] at hj; rw [(hs.a gqp rfl j).2]; exact pf_x_8 j hj
                  replace pf_x_11 : ∀ j : Nat, (j : Int) < (h_34.2.1 x 11).toInt → h_34.2.2 qc j ≠ none := by
                    intro j hj; rw [(hs.o gx trivial rfl).1] at hj; rw [(hs.a gqc rfl j).2]; exact pf_x_11 j hj
                  replace cl_qc_13 : hx_col 100 h_34 qc 13 = odf := (hx_col_S hs hTo gqc tt_45 tt_2 rfl rfl).trans cl_qc_13
                  replace cl_qc_14 : hx_col 100 h_34 qc 14 = wkf := (hx_col_S hs hTo gqc tt_45 tt_2 rfl rfl).trans cl_qc_14
                  replace cl_qc_15 : hx_col 100 h_34 qc 15 = owf := (hx_col_S hs hTo gqc tt_45 tt_2 rfl rfl).trans cl_qc_15
                  replace cl_qc_16 : hx_col 100 h_34 qc 16 = szf := (hx_col_S hs hTo gqc tt_45 tt_2 rfl rfl).trans cl_qc_16
                  replace cl_qc_17 : hx_col 100 h_34 qc 17 = gdf := (hx_col_S hs hTo gqc tt_45 tt_2 rfl rfl).trans cl_qc_17
                  replace cl_qc_18 : hx_col 100 h_34 qc 18 = svf := (hx_col_S hs hTo gqc tt_45 tt_2 rfl rfl).trans cl_qc_18
                  replace nu_qp : hx_num 40 h_34 qp 0 (pn0.toInt) := hx_num_S hs hTo gqp tt_44 tt_4 rfl rfl nu_qp
                  replace nu_qc : hx_num 100 h_34 qc 0 (cn0.toInt) := hx_num_S hs hTo gqc tt_45 tt_2 rfl rfl nu_qc
                  replace hDF : hw_DF h_34 qc qp 2 agf cn0.toInt := hw_DF_S hs hTo gqc gqp tt_45 tt_2 rfl rfl rfl hDF
                  replace hDP : hw_DF h_34 qc qp 1 byf cn0.toInt := hw_DF_S hs hTo gqc gqp tt_45 tt_2 rfl rfl rfl hDP
                  replace hAC : hv_AC h_34 qc plf cn0.toInt A := hv_AC_S hs hTo gqc tt_45 tt_2 rfl tt_0 rfl rfl rfl rfl rfl rfl rfl hAC
                  replace fw_23 : h_34.2.1 qbe = w_23 := (funext fun j => (hs.a (gqbe.S hM) rfl j).1).trans fw_23
                  replace hM := hM.tr (hs.mono ?o47)
                  case o47 => decide
                  replace gx := gx.S hs
                  replace gqp := gqp.S hs
                  replace gqc := gqc.S hs
                  have fw_38 : h_34.2.1 qy 0 = w_38 := fw_38
                  have bw_38 := hT.gi (gqy.S hM) tt_3 (k := 0) rfl
                  rw [fw_38] at bw_38
                  have bw_38 : 0 ≤ w_38.toInt ∧ w_38.toInt ≤ 600 := bw_38
                  have fw_39 : h_34.2.1 pqo = w_39 := fw_39
                  have fw_40 : h_34.2.1 pqd = w_40 := fw_40
                  have fw_41 : h_34.2.1 pqs = w_41 := fw_41
                  have fw_42 : h_34.2.1 pqk = w_42 := fw_42
                  have fw_43 : h_34.2.1 pqt = w_43 := fw_43
                  have fw_44 : h_34.2.1 qrs = w_44 := fw_44
                  have fw_45 : h_34.2.1 qow = w_45 := fw_45
                  have fw_46 : h_34.2.1 qri 0 = w_46 := fw_46
                  have bw_46 := hT.gi (gqri.S hM) tt_7 (k := 0) rfl
                  rw [fw_46] at bw_46
                  have bw_46 : -1 ≤ w_46.toInt ∧ w_46.toInt ≤ 100 := bw_46
                  have fw_47 : h_34.2.1 qls = w_47 := fw_47
                  refine lv_iadd hx hb dX9_net_126 ?_
                  have rg_48 := i32_r iv87_1
                  have rg_49 := i32_r r_35
                  refine lv_topi (fun x_50 ex_50 => ?_)
                  refine lv_istore_n (lv' := [(1, .int x_50), (2, .int iv87_2), (0, .ref x)]) hx hb dX9_net_127 rfl hl ?o48 rfl (fun ls hl => ?_)
                  case o48 => decide
                  obtain ⟨x_51, ex_51⟩ : ∃ y : Int32, y = iv87_2 + Int32.ofInt 1 := ⟨_, rfl⟩
                  have rg_52 := i32_r iv87_2
                  have zx_51 : x_51.toInt = iv87_2.toInt + (1) := ?o49
                  case o49 =>
                    rw [ex_51]
                    refine i32_add rfl ?o50 ?o51 ?o52
                    case o50 => decide
                    case o51 => omega
                    case o52 => omega
                  refine lv_iinc (v := x_51) (lv' := [(2, .int x_51), (1, .int x_50), (0, .ref x)]) hx hb dX9_net_128 hl (k := 1) rfl ex_51.symm ?o53 rfl (fun ls hl => ?_)
                  case o53 => decide
                  refine lv_goto (tgt := 87) hx hb dX9_net_131 ?o54 ?_
                  case o54 => decide
                  refine ih87 x_50 x_51 w_38 w_46 w_39 w_40 w_41 w_42 w_43 w_44 w_45 w_47 _ _ L_33 h_34 (i32_r _).1 (i32_r _).2 ?o55 ?o56 ?o57 ?o58 ?o59 ?o60 (hz_gos vi87_0 vi87_1 ?o61 hgo9 zx_51) (hz_it_s vi87_1 ?o62 be1 be2 hr_37.1 zx_51) (hz_sa_s vi87_2 vi87_1 ?o63 be1 be2 hr_37.2.2.2.2.2 ex_50 zx_51) (by have h9 := hr_37.2.2.2.1; omega) (hz_ls_s vi87_4 vi87_1 ?o64 ?o65 be1 hr_37.2.2.2.2.1 zx_51) hr_37.2.2.1 hr_37.2.1 ls ?o66 hW hT hM fw_38 fw_46 f_x_7 f_x_10 f_x_14 f_x_18 f_x_16 f_x_11 f_x_2 f_x_8 fw_8 gx gqp gqc pf_x_8 pf_x_11 fw_39 fw_40 fw_41 fw_42 fw_43 fw_44 fw_45 fw_47 cl_qc_13 cl_qc_14 cl_qc_15 cl_qc_16 cl_qc_17 cl_qc_18 nu_qp nu_qc hDF hDP hAC (lv_sub hl [0, 1, 2] rfl)
                  case o55 => omega
                  case o56 => omega
                  case o57 => omega
                  case o58 => omega
                  case o59 => omega
                  case o60 => omega
                  case o61 => omega
                  case o62 => omega
                  case o63 => omega
                  case o64 => omega
                  case o65 => omega
                  case o66 => omega
        have zk_0 : (0 : Int32).toInt = 0 := ?o67
        case o67 => decide
        have zk_0 : (0 : Int32).toInt = 0 := ?o68
        case o68 => decide
        refine loop87 101 (0 : Int32) (0 : Int32) n0 w_7 pof pdf psm pkf pst ia13_qrs ia13_qow fa_12 _ _ hL1 hl1 ?o69 ?o70 ?o71 ?o72 ?o73 ?o74 ?o75 ?o76 (fun j hj => by exfalso; rw [zk_0] at hj; exact absurd hj (Nat.not_lt_zero j)) (by rw [zk_0]; rfl) (by rw [show ((0 : Int32).toInt).toNat = 0 from by decide]; rfl) (by have h9 := hr_6.1; omega) (fun j hj => by exfalso; rw [zk_0] at hj; exact absurd hj (Nat.not_lt_zero j)) hDW8 hrs8 ls ?o77 hW hT hM f_qy_0 fw_7 f_x_7 f_x_10 f_x_14 f_x_18 f_x_16 f_x_11 f_x_2 f_x_8 fw_8 gx gqp gqc pf_x_8 pf_x_11 af_pqo af_pqd af_pqs af_pqk af_pqt nia13_qrs nia13_qow nfa_12 cl_qc_13 cl_qc_14 cl_qc_15 cl_qc_16 cl_qc_17 cl_qc_18 nu_qp nu_qc hDF hDP hAC hl
        case o69 => decide
        case o70 => decide
        case o71 => decide
        case o72 => decide
        case o73 => omega
        case o74 => omega
        case o75 => omega
        case o76 => omega
        case o77 => omega
      · skip
        refine lv_aload_n hx hb dX9_net_21 rfl (lv_at hl 1 rfl) ?_
        refine hk_getr hx hb hts hC_9 hown hW gx tt_9 10 ?o78 rfl kw_374 ⟨rfl, rfl, rfl⟩ f_x_10 dX9_net_22 ?_
        case o78 => decide
        refine lv_iload_n hx hb dX9_net_25 rfl (lv_at hl 0 rfl) ?_
        refine hx_aaldN hx hb hW hT gqc tt_45 (t1 := 2) rfl ⟨?o79, ?o80⟩ (pf_x_11 _ (by rw [f_x_11]; exact hx_tnI (by omega) (by omega))) dX9_net_26 (fun q_53 fq_53 gq_53 => ?_)
        case o79 => omega
        case o80 => omega
        refine lv_astore_n (lv' := [(2, .ref q_53), (1, .int iv13_1), (0, .ref x)]) hx hb dX9_net_27 rfl hl ?o81 rfl (fun ls hl => ?_)
        case o81 => decide
        refine lv_aload_n hx hb dX9_net_28 rfl (lv_at hl 2 rfl) ?_
        refine hk_getr hx hb hts hC_9 hown hW gx tt_9 16 ?o82 rfl kw_380 ⟨rfl, rfl, rfl⟩ f_x_16 dX9_net_29 ?_
        case o82 => decide
        refine lv_iload_n hx hb dX9_net_32 rfl (lv_at hl 1 rfl) ?_
        refine lv_aload_n hx hb dX9_net_33 rfl (lv_at hl 0 rfl) ?_
        refine lv_aload_n hx hb dX9_net_34 rfl (lv_at hl 2 rfl) ?_
        refine hk_getr hx hb hts hC_9 hown hW gx tt_9 14 ?o83 rfl kw_378 ⟨rfl, rfl, rfl⟩ f_x_14 dX9_net_35 ?_
        case o83 => decide
        refine lv_aload_n hx hb dX9_net_38 rfl (lv_at hl 2 rfl) ?_
        refine hk_geti hx hb hts hC_9 hown hW gx tt_9 2 ?o84 rfl kw_366 ⟨rfl, rfl, rfl⟩ f_x_2 dX9_net_39 ?_
        case o84 => decide
        refine lv_aload_n hx hb dX9_net_42 rfl (lv_at hl 2 rfl) ?_
        refine hk_geti hx hb hts hC_9 hown hW gx tt_9 2 ?o85 rfl kw_366 ⟨rfl, rfl, rfl⟩ f_x_2 dX9_net_43 ?_
        case o85 => decide
        obtain ⟨fv_54, efv_54⟩ : ∃ y : Int32, y = hl1.2.1 q_53 13 := ⟨_, rfl⟩
        have bfv_54 := hT.gi gq_53 tt_2 (k := 13) rfl
        rw [← efv_54] at bfv_54
        have bfv_54 : -2147483648 ≤ fv_54.toInt ∧ fv_54.toInt ≤ 2147483647 := bfv_54
        have ffv_54 := efv_54.symm
        have cq_55 : fv_54 = odf iv13_1.toInt.toNat := ?o86
        case o86 =>
          rw [← ffv_54, ← cl_qc_13]
          exact (hx_col_at fq_53 (by unfold Int32.toNatClampNeg; omega)).symm
        obtain ⟨fv_56, efv_56⟩ : ∃ y : Int32, y = hl1.2.1 q_53 14 := ⟨_, rfl⟩
        have bfv_56 := hT.gi gq_53 tt_2 (k := 14) rfl
        rw [← efv_56] at bfv_56
        have bfv_56 : -2147483648 ≤ fv_56.toInt ∧ fv_56.toInt ≤ 2147483647 := bfv_56
        have ffv_56 := efv_56.symm
        have cq_57 : fv_56 = wkf iv13_1.toInt.toNat := ?o87
        case o87 =>
          rw [← ffv_56, ← cl_qc_14]
          exact (hx_col_at fq_53 (by unfold Int32.toNatClampNeg; omega)).symm
        obtain ⟨fv_58, efv_58⟩ : ∃ y : Int32, y = hl1.2.1 q_53 15 := ⟨_, rfl⟩
        have bfv_58 := hT.gi gq_53 tt_2 (k := 15) rfl
        rw [← efv_58] at bfv_58
        have bfv_58 : -2147483648 ≤ fv_58.toInt ∧ fv_58.toInt ≤ 2147483647 := bfv_58
        have ffv_58 := efv_58.symm
        have cq_59 : fv_58 = owf iv13_1.toInt.toNat := ?o88
        case o88 =>
          rw [← ffv_58, ← cl_qc_15]
          exact (hx_col_at fq_53 (by unfold Int32.toNatClampNeg; omega)).symm
        obtain ⟨fv_60, efv_60⟩ : ∃ y : Int32, y = hl1.2.1 q_53 16 := ⟨_, rfl⟩
        have bfv_60 := hT.gi gq_53 tt_2 (k := 16) rfl
        rw [← efv_60] at bfv_60
        have bfv_60 : -2147483648 ≤ fv_60.toInt ∧ fv_60.toInt ≤ 2147483647 := bfv_60
        have ffv_60 := efv_60.symm
        have cq_61 : fv_60 = szf iv13_1.toInt.toNat := ?o89
        case o89 =>
          rw [← ffv_60, ← cl_qc_16]
          exact (hx_col_at fq_53 (by unfold Int32.toNatClampNeg; omega)).symm
        obtain ⟨fv_62, efv_62⟩ : ∃ y : Int32, y = hl1.2.1 q_53 17 := ⟨_, rfl⟩
        have bfv_62 := hT.gi gq_53 tt_2 (k := 17) rfl
        rw [← efv_62] at bfv_62
        have bfv_62 : -2147483648 ≤ fv_62.toInt ∧ fv_62.toInt ≤ 2147483647 := bfv_62
        have ffv_62 := efv_62.symm
        have cq_63 : fv_62 = gdf iv13_1.toInt.toNat := ?o90
        case o90 =>
          rw [← ffv_62, ← cl_qc_17]
          exact (hx_col_at fq_53 (by unfold Int32.toNatClampNeg; omega)).symm
        obtain ⟨fv_64, efv_64⟩ : ∃ y : Int32, y = hl1.2.1 q_53 18 := ⟨_, rfl⟩
        have bfv_64 := hT.gi gq_53 tt_2 (k := 18) rfl
        rw [← efv_64] at bfv_64
        have bfv_64 : -2147483648 ≤ fv_64.toInt ∧ fv_64.toInt ≤ 2147483647 := bfv_64
        have ffv_64 := efv_64.symm
        have cq_65 : fv_64 = svf iv13_1.toInt.toNat := ?o91
        case o91 =>
          rw [← ffv_64, ← cl_qc_18]
          exact (hx_col_at fq_53 (by unfold Int32.toNatClampNeg; omega)).symm
        have cb_66 := hCB iv13_1.toInt.toNat (by omega); rw [← cq_55, ← cq_57, ← cq_59, ← cq_61, ← cq_63, ← cq_65] at cb_66
        obtain ⟨⟨cb_66al, cb_66ah⟩, ⟨cb_66bl, cb_66bh⟩, ⟨cb_66cl, cb_66ch⟩, ⟨cb_66dl, cb_66dh⟩, ⟨cb_66el, cb_66eh⟩, ⟨cb_66fl, cb_66fh⟩⟩ := cb_66
        obtain ⟨fv_67, efv_67⟩ : ∃ y : Int32, y = hl1.2.1 q_53 0 := ⟨_, rfl⟩
        have bfv_67 := hT.gi gq_53 tt_2 (k := 0) rfl
        rw [← efv_67] at bfv_67
        have bfv_67 : 0 ≤ fv_67.toInt ∧ fv_67.toInt ≤ 99 := bfv_67
        have ffv_67 := efv_67.symm
        have cq_68 : fv_67 = iv13_1 := ?o92
        case o92 =>
          rw [← ffv_67]
          refine hx_num_at nu_qc fq_53 ?o93 ?o94
          case o93 => omega
          case o94 => omega
        have hTo := hT
        obtain ⟨q_69, fq_69, gq_69⟩ := hv_rf hT gq_53 tt_2 (k := 3) (u := 0) rfl
        obtain ⟨q_70, fq_70, gq_70⟩ := hv_rf hT gq_69 tt_0 (k := 2) (u := 11) rfl
        obtain ⟨fa_71, nfa_71⟩ : ∃ g : Nat → Int32, hl1.2.1 q_70 = g := ⟨_, rfl⟩
        refine hx_goi (hx_runV (As := [.ref qy, .int nw0, .int nw0]) (rest := [.int iv13_1, .ref qrs]) ⟨hx, hb, hml, hown, hts⟩ hW gq_53 tt_2 (T := TX2) (N := 19) rfl (t_X2_restOn_v l dC dI dA hL1 hl1 H.size q_53 qy nw0 nw0 hT gq_53 (gqy.S hM) pqo (gpqo.S hM) ((hM.o gqy trivial rfl).2.trans f_qy_2) pqd (gpqd.S hM) ((hM.o gqy trivial rfl).2.trans f_qy_3) pqs (gpqs.S hM) ((hM.o gqy trivial rfl).2.trans f_qy_5) pqk (gpqk.S hM) ((hM.o gqy trivial rfl).2.trans f_qy_4) pqt (gpqt.S hM) ((hM.o gqy trivial rfl).2.trans f_qy_1) q_69 gq_69 fq_69 q_70 gq_70 fq_70 pof af_pqo pdf af_pqd psm af_pqs pkf af_pqk pst af_pqt fa_71 nfa_71 fv_54 ffv_54 fv_60 ffv_60 fv_62 ffv_62 fv_58 ffv_58 fv_64 ffv_64 fv_67 ffv_67 n0 f_qy_0 (A (plf iv13_1.toInt.toNat).toInt.toNat).2.1 (by rw [← nfa_71]; exact (hAC iv13_1.toNatClampNeg (by unfold Int32.toNatClampNeg; omega) (by unfold Int32.toNatClampNeg; omega) _ _ fq_53 fq_69).2.2.2.1 _ fq_70) (hAB _).1 ⟨?o95, ?o96⟩ ⟨?o97, ?o98⟩ hps) (cwV 3 hts (hx_gV kw_861 kw_927 kw_859 kw_860 kw_110) rfl rfl rfl (by decide +kernel) ⟨Nat.le_of_ble_eq_true rfl, Nat.le_of_ble_eq_true rfl⟩) rfl hl.1 rfl (Nat.le_of_ble_eq_true rfl) dX9_net_46 ⟨Nat.le_of_ble_eq_true rfl, Nat.le_of_ble_eq_true rfl⟩) hW (fun r_74 L_72 h_73 H locs p_75 hW => ?_)
        case o95 => omega
        case o96 => omega
        case o97 => omega
        case o98 => omega
        obtain ⟨hr_76, hT, hs⟩ := p_75
        replace hT : hx_T T_tb L_72 h_73 := hT
        replace hs : hx_S T_tb [] hL1 hl1 L_72 h_73 := hs
        replace f_x_7 := (hs.o gx trivial rfl).2.trans f_x_7
        replace f_x_10 := (hs.o gx trivial rfl).2.trans f_x_10
        replace f_x_14 := (hs.o gx trivial rfl).2.trans f_x_14
        replace f_x_18 := (hs.o gx trivial rfl).2.trans f_x_18
        replace f_x_16 := (hs.o gx trivial rfl).2.trans f_x_16
        replace f_x_11 := (hs.o gx trivial rfl).1.trans f_x_11
        replace f_x_2 := (hs.o gx trivial rfl).1.trans f_x_2
        replace f_qy_0 := (hs.o (gqy.S hM) trivial rfl).1.trans f_qy_0
        replace f_x_8 := (hs.o gx trivial rfl).1.trans f_x_8
        replace fw_7 := (hs.o (gqri.S hM) trivial rfl).1.trans fw_7
        replace fw_8 := (hs.o (gqri.S hM) trivial rfl).1.trans fw_8
        replace ffv_54 := (hs.o gq_53 trivial rfl).1.trans ffv_54
        replace ffv_56 := (hs.o gq_53 trivial rfl).1.trans ffv_56
        replace ffv_58 := (hs.o gq_53 trivial rfl).1.trans ffv_58
        replace ffv_60 := (hs.o gq_53 trivial rfl).1.trans ffv_60
        replace ffv_62 := (hs.o gq_53 trivial rfl).1.trans ffv_62
        replace ffv_64 := (hs.o gq_53 trivial rfl).1.trans ffv_64
        replace ffv_67 := (hs.o gq_53 trivial rfl).1.trans ffv_67
        replace fq_69 := (hs.o gq_53 trivial rfl).2.trans fq_69
        replace fq_70 := (hs.o gq_69 trivial rfl).2.trans fq_70
        replace pf_x_8 : ∀ j : Nat, (j : Int) < (h_73.2.1 x 8).toInt → h_73.2.2 qp j ≠ none := by
          intro j hj; rw [(hs.o gx trivial rfl).1] at hj; rw [(hs.a gqp rfl j).2]; exact pf_x_8 j hj
        replace pf_x_11 : ∀ j : Nat, (j : Int) < (h_73.2.1 x 11).toInt → h_73.2.2 qc j ≠ none := by
          intro j hj; rw [(hs.o gx trivial rfl).1] at hj; rw [(hs.a gqc rfl j).2]; exact pf_x_11 j hj
        replace cl_qc_13 : hx_col 100 h_73 qc 13 = odf := (hx_col_S hs hTo gqc tt_45 tt_2 rfl rfl).trans cl_qc_13
        replace cl_qc_14 : hx_col 100 h_73 qc 14 = wkf := (hx_col_S hs hTo gqc tt_45 tt_2 rfl rfl).trans cl_qc_14
        replace cl_qc_15 : hx_col 100 h_73 qc 15 = owf := (hx_col_S hs hTo gqc tt_45 tt_2 rfl rfl).trans cl_qc_15
        replace cl_qc_16 : hx_col 100 h_73 qc 16 = szf := (hx_col_S hs hTo gqc tt_45 tt_2 rfl rfl).trans cl_qc_16
        replace cl_qc_17 : hx_col 100 h_73 qc 17 = gdf := (hx_col_S hs hTo gqc tt_45 tt_2 rfl rfl).trans cl_qc_17
        replace cl_qc_18 : hx_col 100 h_73 qc 18 = svf := (hx_col_S hs hTo gqc tt_45 tt_2 rfl rfl).trans cl_qc_18
        replace nu_qp : hx_num 40 h_73 qp 0 (pn0.toInt) := hx_num_S hs hTo gqp tt_44 tt_4 rfl rfl nu_qp
        replace nu_qc : hx_num 100 h_73 qc 0 (cn0.toInt) := hx_num_S hs hTo gqc tt_45 tt_2 rfl rfl nu_qc
        replace hDF : hw_DF h_73 qc qp 2 agf cn0.toInt := hw_DF_S hs hTo gqc gqp tt_45 tt_2 rfl rfl rfl hDF
        replace hDP : hw_DF h_73 qc qp 1 byf cn0.toInt := hw_DF_S hs hTo gqc gqp tt_45 tt_2 rfl rfl rfl hDP
        replace hAC : hv_AC h_73 qc plf cn0.toInt A := hv_AC_S hs hTo gqc tt_45 tt_2 rfl tt_0 rfl rfl rfl rfl rfl rfl rfl hAC
        replace fq_53 := (hs.a gqc rfl _).2.trans fq_53
        replace af_pqo : h_73.2.1 pqo = pof := (funext fun j => (hs.a (gpqo.S hM) rfl j).1).trans af_pqo
        replace af_pqd : h_73.2.1 pqd = pdf := (funext fun j => (hs.a (gpqd.S hM) rfl j).1).trans af_pqd
        replace af_pqs : h_73.2.1 pqs = psm := (funext fun j => (hs.a (gpqs.S hM) rfl j).1).trans af_pqs
        replace af_pqk : h_73.2.1 pqk = pkf := (funext fun j => (hs.a (gpqk.S hM) rfl j).1).trans af_pqk
        replace af_pqt : h_73.2.1 pqt = pst := (funext fun j => (hs.a (gpqt.S hM) rfl j).1).trans af_pqt
        replace nia13_qow : h_73.2.1 qow = ia13_qow := (funext fun j => (hs.a (gqow.S hM) rfl j).1).trans nia13_qow
        replace nia13_qrs : h_73.2.1 qrs = ia13_qrs := (funext fun j => (hs.a (gqrs.S hM) rfl j).1).trans nia13_qrs
        replace nfa_71 : h_73.2.1 q_70 = fa_71 := (funext fun j => (hs.a gq_70 rfl j).1).trans nfa_71
        replace hM := hM.tr (hs.mono ?o99)
        case o99 => decide
        replace gx := gx.S hs
        replace gqp := gqp.S hs
        replace gqc := gqc.S hs
        replace gq_53 := gq_53.S hs
        replace gq_69 := gq_69.S hs
        replace gq_70 := gq_70.S hs
        have hrn9 : r_74.toInt = ((hz_Rn odf szf gdf owf svf (hz_rc A plf) pof pdf psm pkf pst nw0.toInt n0.toInt.toNat) iv13_1.toInt.toNat) ∧ (0 ≤ r_74.toInt ∧ r_74.toInt ≤ 609999) := ?o100
        case o100 =>
          unfold hz_Rn
          rw [show ((iv13_1.toInt.toNat : Nat) : Int) = fv_67.toInt from by rw [cq_68]; omega, ← cq_65, ← cq_55, ← cq_61, ← cq_63, ← cq_59]
          exact hr_76
        clear hr_76
        have hrv9 : r_74.toInt = (hz_RP odf szf gdf owf svf (hz_rc A plf) nw0.toInt) ((pof, pdf, psm, pkf, pst, n0.toInt.toNat) : hz_P) iv13_1.toInt.toNat := hrn9.1
        have hTo := hT
        have nia13_qrsO := nia13_qrs
        have hTo := hT
        refine hx_iast hx hb hW hT (hx_S.rf (M := [(48, 0)])) (gqrs.S hM) tt_48 rfl ⟨?o101, ?o102⟩ rfl (i32_r _) (List.mem_singleton.mpr rfl) dX9_net_49 (fun H locs h_77 eh_77 hW hT hs => ?_)
        case o101 => omega
        case o102 => omega
        replace f_x_7 := (hs.o gx trivial rfl).2.trans f_x_7
        replace f_x_10 := (hs.o gx trivial rfl).2.trans f_x_10
        replace f_x_14 := (hs.o gx trivial rfl).2.trans f_x_14
        replace f_x_18 := (hs.o gx trivial rfl).2.trans f_x_18
        replace f_x_16 := (hs.o gx trivial rfl).2.trans f_x_16
        replace f_x_11 := (hs.o gx trivial rfl).1.trans f_x_11
        replace f_x_2 := (hs.o gx trivial rfl).1.trans f_x_2
        replace f_qy_0 := (hs.o (gqy.S hM) trivial rfl).1.trans f_qy_0
        replace f_x_8 := (hs.o gx trivial rfl).1.trans f_x_8
        replace fw_7 := (hs.o (gqri.S hM) trivial rfl).1.trans fw_7
        replace fw_8 := (hs.o (gqri.S hM) trivial rfl).1.trans fw_8
        replace ffv_54 := (hs.o gq_53 trivial rfl).1.trans ffv_54
        replace ffv_56 := (hs.o gq_53 trivial rfl).1.trans ffv_56
        replace ffv_58 := (hs.o gq_53 trivial rfl).1.trans ffv_58
        replace ffv_60 := (hs.o gq_53 trivial rfl).1.trans ffv_60
        replace ffv_62 := (hs.o gq_53 trivial rfl).1.trans ffv_62
        replace ffv_64 := (hs.o gq_53 trivial rfl).1.trans ffv_64
        replace ffv_67 := (hs.o gq_53 trivial rfl).1.trans ffv_67
        replace fq_69 := (hs.o gq_53 trivial rfl).2.trans fq_69
        replace fq_70 := (hs.o gq_69 trivial rfl).2.trans fq_70
        replace pf_x_8 : ∀ j : Nat, (j : Int) < (h_77.2.1 x 8).toInt → h_77.2.2 qp j ≠ none := by
          intro j hj; rw [(hs.o gx trivial rfl).1] at hj; rw [(hs.a gqp rfl j).2]; exact pf_x_8 j hj
        replace pf_x_11 : ∀ j : Nat, (j : Int) < (h_77.2.1 x 11).toInt → h_77.2.2 qc j ≠ none := by
          intro j hj; rw [(hs.o gx trivial rfl).1] at hj; rw [(hs.a gqc rfl j).2]; exact pf_x_11 j hj
        replace cl_qc_13 : hx_col 100 h_77 qc 13 = odf := (hx_col_S hs hTo gqc tt_45 tt_2 rfl rfl).trans cl_qc_13
        replace cl_qc_14 : hx_col 100 h_77 qc 14 = wkf := (hx_col_S hs hTo gqc tt_45 tt_2 rfl rfl).trans cl_qc_14
        replace cl_qc_15 : hx_col 100 h_77 qc 15 = owf := (hx_col_S hs hTo gqc tt_45 tt_2 rfl rfl).trans cl_qc_15
        replace cl_qc_16 : hx_col 100 h_77 qc 16 = szf := (hx_col_S hs hTo gqc tt_45 tt_2 rfl rfl).trans cl_qc_16
        replace cl_qc_17 : hx_col 100 h_77 qc 17 = gdf := (hx_col_S hs hTo gqc tt_45 tt_2 rfl rfl).trans cl_qc_17
        replace cl_qc_18 : hx_col 100 h_77 qc 18 = svf := (hx_col_S hs hTo gqc tt_45 tt_2 rfl rfl).trans cl_qc_18
        replace nu_qp : hx_num 40 h_77 qp 0 (pn0.toInt) := hx_num_S hs hTo gqp tt_44 tt_4 rfl rfl nu_qp
        replace nu_qc : hx_num 100 h_77 qc 0 (cn0.toInt) := hx_num_S hs hTo gqc tt_45 tt_2 rfl rfl nu_qc
        replace hDF : hw_DF h_77 qc qp 2 agf cn0.toInt := hw_DF_S hs hTo gqc gqp tt_45 tt_2 rfl rfl rfl hDF
        replace hDP : hw_DF h_77 qc qp 1 byf cn0.toInt := hw_DF_S hs hTo gqc gqp tt_45 tt_2 rfl rfl rfl hDP
        replace hAC : hv_AC h_77 qc plf cn0.toInt A := hv_AC_S hs hTo gqc tt_45 tt_2 rfl tt_0 rfl rfl rfl rfl rfl rfl rfl hAC
        replace fq_53 := (hs.a gqc rfl _).2.trans fq_53
        replace af_pqo : h_77.2.1 pqo = pof := (funext fun j => (hs.a (gpqo.S hM) rfl j).1).trans af_pqo
        replace af_pqd : h_77.2.1 pqd = pdf := (funext fun j => (hs.a (gpqd.S hM) rfl j).1).trans af_pqd
        replace af_pqs : h_77.2.1 pqs = psm := (funext fun j => (hs.a (gpqs.S hM) rfl j).1).trans af_pqs
        replace af_pqk : h_77.2.1 pqk = pkf := (funext fun j => (hs.a (gpqk.S hM) rfl j).1).trans af_pqk
        replace af_pqt : h_77.2.1 pqt = pst := (funext fun j => (hs.a (gpqt.S hM) rfl j).1).trans af_pqt
        replace nia13_qow : h_77.2.1 qow = ia13_qow := (funext fun j => (hs.a (gqow.S hM) rfl j).1).trans nia13_qow
        replace nfa_71 : h_77.2.1 q_70 = fa_71 := (funext fun j => (hs.a gq_70 rfl j).1).trans nfa_71
        replace hM := hM.tr (hs.mono ?o103)
        case o103 => decide
        replace gx := gx.S hs
        replace gqp := gqp.S hs
        replace gqc := gqc.S hs
        replace gq_53 := gq_53.S hs
        replace gq_69 := gq_69.S hs
        replace gq_70 := gq_70.S hs
        obtain ⟨fa_78, dfa_78⟩ : ∃ g : Nat → Int32, g = hx_up ia13_qrs iv13_1.toNatClampNeg r_74 := ⟨_, rfl⟩
        have nfa_78 : h_77.2.1 qrs = fa_78 := ?o104
        case o104 =>
          rw [eh_77, dfa_78, ← nia13_qrsO]
          exact hx_pi_fun _ _ _ _
        refine lv_aload_n hx hb dX9_net_50 rfl (lv_at hl 2 rfl) ?_
        refine hk_getr hx hb hts hC_9 hown hW gx tt_9 18 ?o105 rfl kw_382 ⟨rfl, rfl, rfl⟩ f_x_18 dX9_net_51 ?_
        case o105 => decide
        refine lv_aload_n hx hb dX9_net_54 rfl (lv_at hl 0 rfl) ?_
        refine hx_getn hx hb hts hC_2 hown hW hT gq_53 tt_2 2 ?o106 rfl kw_733 ⟨rfl, rfl, rfl⟩ dX9_net_55 (fun q_79 fq_79 gq_79 => ?_)
        case o106 => decide
        obtain ⟨dAq_79, dBq_79, dCq_79⟩ := hDF iv13_1.toNatClampNeg (by unfold Int32.toNatClampNeg; omega) (by unfold Int32.toNatClampNeg; omega) _ _ fq_53 fq_79
        have dAq_79 : 0 ≤ (agf iv13_1.toNatClampNeg).toInt := dAq_79; have dBq_79 : (agf iv13_1.toNatClampNeg).toInt < 40 := dBq_79; have eoq_79 : h_77.2.2 qp (agf iv13_1.toNatClampNeg).toNatClampNeg = some q_79 := dCq_79
        refine hx_geti hx hb hts hC_4 hown hW hT gq_79 tt_4 0 ?o107 rfl kw_612 ⟨rfl, rfl, rfl⟩ dX9_net_58 (fun x_80 ex_80 lx_80 ux_80 => ?_)
        case o107 => decide
        have fx_80 := ex_80.symm
        have hdn9 : x_80 = (agf iv13_1.toNatClampNeg) := ?o108
        case o108 =>
          rw [← fx_80]
          refine hx_num_at nu_qp eoq_79 ?o109 ?o110
          case o109 => omega
          case o110 => omega
        refine lv_aload_n hx hb dX9_net_61 rfl (lv_at hl 0 rfl) ?_
        refine hx_getn hx hb hts hC_2 hown hW hT gq_53 tt_2 1 ?o111 rfl kw_728 ⟨rfl, rfl, rfl⟩ dX9_net_62 (fun q_81 fq_81 gq_81 => ?_)
        case o111 => decide
        obtain ⟨dAq_81, dBq_81, dCq_81⟩ := hDP iv13_1.toNatClampNeg (by unfold Int32.toNatClampNeg; omega) (by unfold Int32.toNatClampNeg; omega) _ _ fq_53 fq_81
        have dAq_81 : 0 ≤ (byf iv13_1.toNatClampNeg).toInt := dAq_81; have dBq_81 : (byf iv13_1.toNatClampNeg).toInt < 40 := dBq_81; have eoq_81 : h_77.2.2 qp (byf iv13_1.toNatClampNeg).toNatClampNeg = some q_81 := dCq_81
        refine hx_geti hx hb hts hC_4 hown hW hT gq_81 tt_4 0 ?o112 rfl kw_612 ⟨rfl, rfl, rfl⟩ dX9_net_65 (fun x_82 ex_82 lx_82 ux_82 => ?_)
        case o112 => decide
        have fx_82 := ex_82.symm
        have hpn9 : x_82 = (byf iv13_1.toNatClampNeg) := ?o113
        case o113 =>
          rw [← fx_82]
          refine hx_num_at nu_qp eoq_81 ?o114 ?o115
          case o114 => omega
          case o115 => omega
        refine lv_aload_n hx hb dX9_net_68 rfl (lv_at hl 2 rfl) ?_
        refine hk_getr hx hb hts hC_9 hown hW gx tt_9 16 ?o116 rfl kw_380 ⟨rfl, rfl, rfl⟩ f_x_16 dX9_net_69 ?_
        case o116 => decide
        refine lv_iload_n hx hb dX9_net_72 rfl (lv_at hl 1 rfl) ?_
        refine hx_iald hx hb hW hT (gqrs.S hM) tt_48 rfl ⟨?o117, ?o118⟩ dX9_net_73 (fun x_83 ex_83 lx_83 ux_83 => ?_)
        case o117 => omega
        case o118 => omega
        have ax_83 : x_83 = fa_78 iv13_1.toNatClampNeg := ex_83.trans (congrFun nfa_78 _)
        have hrv8 : x_83.toInt = (hz_RP odf szf gdf owf svf (hz_rc A plf) nw0.toInt) ((pof, pdf, psm, pkf, pst, n0.toInt.toNat) : hz_P) iv13_1.toInt.toNat := ?o119
        case o119 =>
          rw [ax_83, dfa_78, hx_up_at]
          exact hrv9
        have hTo := hT
        refine hx_gov (hx_runV (As := [.int x_80, .int x_82, .int x_83]) (rest := []) ⟨hx, hb, hml, hown, hts⟩ hW (gqri.S hM) tt_7 (T := TX7) (N := 8) rfl (t_X7_owe_v l dC dI dA L_72 h_77 H.size qri x_80 x_82 x_83 hT (gqri.S hM) qow (gqow.S hM) ((hM.o gqri trivial rfl).2.trans f_qri_5) ia13_qow nia13_qow ⟨?o120, ?o121⟩ ⟨?o122, ?o123⟩) (cwV 3 hts (hx_gV kw_992 kw_989 kw_990 kw_991 kw_101) rfl rfl rfl (by decide +kernel) ⟨Nat.le_of_ble_eq_true rfl, Nat.le_of_ble_eq_true rfl⟩) rfl hl.1 rfl (Nat.le_of_ble_eq_true rfl) dX9_net_74 ⟨Nat.le_of_ble_eq_true rfl, Nat.le_of_ble_eq_true rfl⟩) hW (fun L_84 h_85 H locs p_87 hW => ?_)
        case o120 => omega
        case o121 => omega
        case o122 => omega
        case o123 => omega
        obtain ⟨⟨w_89, fw_89, hr_88⟩, hT, hs⟩ := p_87
        replace hT : hx_T T_tb L_84 h_85 := hT
        replace hs : hx_S T_tb [(36, 0)] L_72 h_77 L_84 h_85 := hs
        replace f_x_7 := (hs.o gx trivial rfl).2.trans f_x_7
        replace f_x_10 := (hs.o gx trivial rfl).2.trans f_x_10
        replace f_x_14 := (hs.o gx trivial rfl).2.trans f_x_14
        replace f_x_18 := (hs.o gx trivial rfl).2.trans f_x_18
        replace f_x_16 := (hs.o gx trivial rfl).2.trans f_x_16
        replace f_x_11 := (hs.o gx trivial rfl).1.trans f_x_11
        replace f_x_2 := (hs.o gx trivial rfl).1.trans f_x_2
        replace f_qy_0 := (hs.o (gqy.S hM) trivial rfl).1.trans f_qy_0
        replace f_x_8 := (hs.o gx trivial rfl).1.trans f_x_8
        replace fw_7 := (hs.o (gqri.S hM) trivial rfl).1.trans fw_7
        replace fw_8 := (hs.o (gqri.S hM) trivial rfl).1.trans fw_8
        replace ffv_54 := (hs.o gq_53 trivial rfl).1.trans ffv_54
        replace ffv_56 := (hs.o gq_53 trivial rfl).1.trans ffv_56
        replace ffv_58 := (hs.o gq_53 trivial rfl).1.trans ffv_58
        replace ffv_60 := (hs.o gq_53 trivial rfl).1.trans ffv_60
        replace ffv_62 := (hs.o gq_53 trivial rfl).1.trans ffv_62
        replace ffv_64 := (hs.o gq_53 trivial rfl).1.trans ffv_64
        replace ffv_67 := (hs.o gq_53 trivial rfl).1.trans ffv_67
        replace fq_69 := (hs.o gq_53 trivial rfl).2.trans fq_69
        replace fq_70 := (hs.o gq_69 trivial rfl).2.trans fq_70
        replace fq_79 := (hs.o gq_53 trivial rfl).2.trans fq_79
        replace fx_80 := (hs.o gq_79 trivial rfl).1.trans fx_80
        replace fq_81 := (hs.o gq_53 trivial rfl).2.trans fq_81
        replace fx_82 := (hs.o gq_81 trivial rfl).1.trans fx_82
        replace pf_x_8 : ∀ j : Nat, (j : Int) < (h_85.2.1 x 8).toInt → h_85.2.2 qp j ≠ none := by
          intro j hj; rw [(hs.o gx trivial rfl).1] at hj; rw [(hs.a gqp rfl j).2]; exact pf_x_8 j hj
        replace pf_x_11 : ∀ j : Nat, (j : Int) < (h_85.2.1 x 11).toInt → h_85.2.2 qc j ≠ none := by
          intro j hj; rw [(hs.o gx trivial rfl).1] at hj; rw [(hs.a gqc rfl j).2]; exact pf_x_11 j hj
        replace cl_qc_13 : hx_col 100 h_85 qc 13 = odf := (hx_col_S hs hTo gqc tt_45 tt_2 rfl rfl).trans cl_qc_13
        replace cl_qc_14 : hx_col 100 h_85 qc 14 = wkf := (hx_col_S hs hTo gqc tt_45 tt_2 rfl rfl).trans cl_qc_14
        replace cl_qc_15 : hx_col 100 h_85 qc 15 = owf := (hx_col_S hs hTo gqc tt_45 tt_2 rfl rfl).trans cl_qc_15
        replace cl_qc_16 : hx_col 100 h_85 qc 16 = szf := (hx_col_S hs hTo gqc tt_45 tt_2 rfl rfl).trans cl_qc_16
        replace cl_qc_17 : hx_col 100 h_85 qc 17 = gdf := (hx_col_S hs hTo gqc tt_45 tt_2 rfl rfl).trans cl_qc_17
        replace cl_qc_18 : hx_col 100 h_85 qc 18 = svf := (hx_col_S hs hTo gqc tt_45 tt_2 rfl rfl).trans cl_qc_18
        replace nu_qp : hx_num 40 h_85 qp 0 (pn0.toInt) := hx_num_S hs hTo gqp tt_44 tt_4 rfl rfl nu_qp
        replace nu_qc : hx_num 100 h_85 qc 0 (cn0.toInt) := hx_num_S hs hTo gqc tt_45 tt_2 rfl rfl nu_qc
        replace hDF : hw_DF h_85 qc qp 2 agf cn0.toInt := hw_DF_S hs hTo gqc gqp tt_45 tt_2 rfl rfl rfl hDF
        replace hDP : hw_DF h_85 qc qp 1 byf cn0.toInt := hw_DF_S hs hTo gqc gqp tt_45 tt_2 rfl rfl rfl hDP
        replace hAC : hv_AC h_85 qc plf cn0.toInt A := hv_AC_S hs hTo gqc tt_45 tt_2 rfl tt_0 rfl rfl rfl rfl rfl rfl rfl hAC
        replace fq_53 := (hs.a gqc rfl _).2.trans fq_53
        replace eoq_79 := (hs.a gqp rfl _).2.trans eoq_79
        replace eoq_81 := (hs.a gqp rfl _).2.trans eoq_81
        replace af_pqo : h_85.2.1 pqo = pof := (funext fun j => (hs.a (gpqo.S hM) rfl j).1).trans af_pqo
        replace af_pqd : h_85.2.1 pqd = pdf := (funext fun j => (hs.a (gpqd.S hM) rfl j).1).trans af_pqd
        replace af_pqs : h_85.2.1 pqs = psm := (funext fun j => (hs.a (gpqs.S hM) rfl j).1).trans af_pqs
        replace af_pqk : h_85.2.1 pqk = pkf := (funext fun j => (hs.a (gpqk.S hM) rfl j).1).trans af_pqk
        replace af_pqt : h_85.2.1 pqt = pst := (funext fun j => (hs.a (gpqt.S hM) rfl j).1).trans af_pqt
        replace nfa_71 : h_85.2.1 q_70 = fa_71 := (funext fun j => (hs.a gq_70 rfl j).1).trans nfa_71
        replace nfa_78 : h_85.2.1 qrs = fa_78 := (funext fun j => (hs.a (gqrs.S hM) rfl j).1).trans nfa_78
        replace ex_83 := ex_83.trans (hs.a (gqrs.S hM) rfl _).1.symm
        replace hM := hM.tr (hs.mono ?o124)
        case o124 => decide
        replace gx := gx.S hs
        replace gqp := gqp.S hs
        replace gqc := gqc.S hs
        replace gq_53 := gq_53.S hs
        replace gq_69 := gq_69.S hs
        replace gq_70 := gq_70.S hs
        replace gq_79 := gq_79.S hs
        replace gq_81 := gq_81.S hs
        have fw_89 : h_85.2.1 qow = w_89 := fw_89
        obtain ⟨x_90, ex_90⟩ : ∃ y : Int32, y = iv13_1 + Int32.ofInt 1 := ⟨_, rfl⟩
        have rg_91 := i32_r iv13_1
        have zx_90 : x_90.toInt = iv13_1.toInt + (1) := ?o125
        case o125 =>
          rw [ex_90]
          refine i32_add rfl ?o126 ?o127 ?o128
          case o126 => decide
          case o127 => omega
          case o128 => omega
        refine lv_iinc (v := x_90) (lv' := [(1, .int x_90), (2, .ref q_53), (0, .ref x)]) hx hb dX9_net_77 hl (k := 1) rfl ex_90.symm ?o129 rfl (fun ls hl => ?_)
        case o129 => decide
        refine lv_goto (tgt := 13) hx hb dX9_net_80 ?o130 ?_
        case o130 => decide
        refine ih13 x_90 w_89 fa_78 _ _ L_84 h_85 ?o131 ?o132 (hz_DW_s vi13_0 ?o133 ?o134 (fun c hc => HB9 c ?o135) hrv8 (by have h8 := congrArg Int32.toInt hdn9; have h9 := congrArg Int32.toInt hpn9; have g8 : (agf iv13_1.toNatClampNeg).toInt = (agf iv13_1.toInt.toNat).toInt := rfl; have g9 : (byf iv13_1.toNatClampNeg).toInt = (byf iv13_1.toInt.toNat).toInt := rfl; omega) ?o136 hr_88 zx_90) (hz_rs_s vi13_1 ?o137 (by unfold Int32.toNatClampNeg; omega) hrv9 dfa_78 zx_90) ?o138 ls ?o139 hW hT hM f_x_7 f_x_10 f_x_14 f_x_18 f_x_16 f_x_11 f_x_2 f_qy_0 f_x_8 fw_7 fw_8 gx gqp gqc pf_x_8 pf_x_11 fw_89 nfa_78 af_pqo af_pqd af_pqs af_pqk af_pqt cl_qc_13 cl_qc_14 cl_qc_15 cl_qc_16 cl_qc_17 cl_qc_18 nu_qp nu_qc hDF hDP hAC (lv_sub hl [0, 2] rfl)
        case o131 => omega
        case o132 => omega
        case o133 => omega
        case o134 => omega
        case o135 => omega
        case o136 => omega
        case o137 => omega
        case o138 => omega
        case o139 => omega
  have zk_0 : (0 : Int32).toInt = 0 := ?o140
  case o140 => decide
  refine loop13 101 (0 : Int32) w_9 fa_10 _ _ L_2 h_3 ?o141 ?o142 (by rw [zk_0]; exact hz_DW_0 hr_6.2.2) (fun c hc => ?o143) ?o144 ls ?o145 hW hT hM f_x_7 f_x_10 f_x_14 f_x_18 f_x_16 f_x_11 f_x_2 f_qy_0 f_x_8 fw_7 fw_8 gx gqp gqc pf_x_8 pf_x_11 fw_9 nfa_10 af_pqo af_pqd af_pqs af_pqk af_pqt cl_qc_13 cl_qc_14 cl_qc_15 cl_qc_16 cl_qc_17 cl_qc_18 nu_qp nu_qc hDF hDP hAC hl
  case o141 => decide
  case o142 => decide
  case o143 =>
    exfalso
    omega
  case o144 => omega
  case o145 => omega


set_option maxHeartbeats 4000000 in
set_option maxRecDepth 100000 in
theorem t_X9_netted_v (l : Launch) (dC : Nat → ClassId) (dI : Nat → Nat → Nat) (dA : Nat → ClassId) (L : List Nat) (h : hx_h) (sz : Nat) (x : Nat) (i1 : Int32) (hT : hx_T T_tb L h) (gx : hx_g L h x 9) (qri : Nat) (gqri : hx_g L h qri 7) (f_x_18 : h.2.2 x 18 = some qri) (qls : Nat) (gqls : hx_g L h qls 35) (f_qri_3 : h.2.2 qri 3 = some qls) (lsf : Nat → Int32) (af_qls : h.2.1 qls = lsf) (ct0 : Int32) (f_qri_0 : h.2.1 qri 0 = ct0) : Met l yX9_netted (Cond.code yX9_netted cX9_netted 2 (some .int) :: hx_all) ({ frames := 0, cells := 0, slots := 0, locals := 0 }) (va_Pc [.ref x, .int i1] (hx_B T_tb (P_ty dA) (dC, dI) vwCl L h sz)) (va_Qi (fun (r : Int32) (u : List Nat × hx_h) => (hz_ND i1.toInt ct0.toInt r.toInt lsf) ∧ hx_T T_tb u.1 u.2 ∧ hx_S T_tb [] L h u.1 u.2) (hx_E T_tb (P_ty dA) (dC, dI) vwCl (hx_A L sz)) (hx_A L sz)) 0 0 (hx_A L sz) := by
  refine hx_met (lv := [(0, .ref x), (1, .int i1)]) (by decide +kernel) rfl (Nat.le_of_ble_eq_true rfl) rfl ?_
  intro p e s m below meth c hx hb hml hr hlk hts0 hown hin hsz hW ls hl
  have hts : ∀ w ∈ hx_all, w.before _ s = true := fun w hw => hts0 w (List.mem_cons_of_mem _ hw)
  have hown : s.vm.findClass "SmallCourt" = some m.cls := hown
  have hM : hx_S T_tb [] L h L h := hx_S.rf
  have b_ct0 := hT.gi gqri tt_7 (k := 0) rfl
  rw [f_qri_0] at b_ct0
  have b_ct0 : -1 ≤ ct0.toInt ∧ ct0.toInt ≤ 100 := b_ct0
  refine lv_iload_n hx hb dX9_netted_0 rfl (lv_at hl 1 rfl) ?_
  refine lv_iconst (v := -1) hx hb dX9_netted_1 ?o0 ?_
  case o0 => decide
  refine hb_icmp_ne (zx := i1.toInt) (zy := (-1)) (tgt := 13) hx hb rfl ?o1 dX9_netted_2 ?o2 (fun c_1 => ?_) (fun c_1 => ?_)
  case o1 => decide
  case o2 => decide
  · skip
    refine lv_iload_n hx hb dX9_netted_13 rfl (lv_at hl 1 rfl) ?_
    refine hb_if_lt (zx := i1.toInt) (tgt := 28) hx hb rfl dX9_netted_14 ?o3 (fun c_2 => ?_) (fun c_2 => ?_)
    case o3 => decide
    · skip
      refine lv_iconst (v := -1) hx hb dX9_netted_28 ?o4 ?_
      case o4 => decide
      refine lv_goto (tgt := 41) hx hb dX9_netted_29 ?o5 ?_
      case o5 => decide
      refine hx_reti hx hb hr hlk hW ⟨(Or.inr (Or.inl ⟨?o6, ?o7, ?o8⟩)), hT, hM⟩ dX9_netted_41
      case o6 => omega
      case o7 => omega
      case o8 => decide
    · skip
      refine lv_iload_n hx hb dX9_netted_17 rfl (lv_at hl 1 rfl) ?_
      refine lv_aload_n hx hb dX9_netted_18 rfl (lv_at hl 0 rfl) ?_
      refine hk_getr hx hb hts hC_9 hown hW (gx.S hM) tt_9 18 ?o9 rfl kw_382 ⟨rfl, rfl, rfl⟩ ((hM.o gx trivial rfl).2.trans f_x_18) dX9_netted_19 ?_
      case o9 => decide
      refine hk_geti hx hb hts hC_7 hown hW (gqri.S hM) tt_7 0 ?o10 rfl kw_310 ⟨rfl, rfl, rfl⟩ ((hM.o gqri trivial rfl).1.trans f_qri_0) dX9_netted_22 ?_
      case o10 => decide
      refine hb_icmp_lt (zx := i1.toInt) (zy := ct0.toInt) (tgt := 32) hx hb rfl rfl dX9_netted_25 ?o11 (fun c_3 => ?_) (fun c_3 => ?_)
      case o11 => decide
      · skip
        refine lv_aload_n hx hb dX9_netted_32 rfl (lv_at hl 0 rfl) ?_
        refine hk_getr hx hb hts hC_9 hown hW (gx.S hM) tt_9 18 ?o12 rfl kw_382 ⟨rfl, rfl, rfl⟩ ((hM.o gx trivial rfl).2.trans f_x_18) dX9_netted_33 ?_
        case o12 => decide
        refine hk_getr hx hb hts hC_7 hown hW (gqri.S hM) tt_7 3 ?o13 rfl kw_316 ⟨rfl, rfl, rfl⟩ ((hM.o gqri trivial rfl).2.trans f_qri_3) dX9_netted_36 ?_
        case o13 => decide
        refine lv_iload_n hx hb dX9_netted_39 rfl (lv_at hl 1 rfl) ?_
        refine hx_iald hx hb hW hT (gqls.S hM) tt_35 rfl ⟨?o14, ?o15⟩ dX9_netted_40 (fun x_4 ex_4 lx_4 ux_4 => ?_)
        case o14 => omega
        case o15 => omega
        have ax_4 : x_4 = lsf i1.toNatClampNeg := ex_4.trans (congrFun (hx_afS hM gqls rfl af_qls) _)
        refine hx_reti hx hb hr hlk hW ⟨(Or.inr (Or.inr ⟨⟨?o16, ?o17⟩, congrArg Int32.toInt ax_4⟩)), hT, hM⟩ dX9_netted_41
        case o16 => omega
        case o17 => omega
      · skip
        refine lv_iconst (v := -1) hx hb dX9_netted_28 ?o18 ?_
        case o18 => decide
        refine lv_goto (tgt := 41) hx hb dX9_netted_29 ?o19 ?_
        case o19 => decide
        refine hx_reti hx hb hr hlk hW ⟨(Or.inr (Or.inl ⟨?o20, ?o21, ?o22⟩)), hT, hM⟩ dX9_netted_41
        case o20 => omega
        case o21 => omega
        case o22 => decide
  · skip
    refine lv_aload_n hx hb dX9_netted_5 rfl (lv_at hl 0 rfl) ?_
    refine hk_getr hx hb hts hC_9 hown hW (gx.S hM) tt_9 18 ?o23 rfl kw_382 ⟨rfl, rfl, rfl⟩ ((hM.o gx trivial rfl).2.trans f_x_18) dX9_netted_6 ?_
    case o23 => decide
    refine hk_geti hx hb hts hC_7 hown hW (gqri.S hM) tt_7 0 ?o24 rfl kw_310 ⟨rfl, rfl, rfl⟩ ((hM.o gqri trivial rfl).1.trans f_qri_0) dX9_netted_9 ?_
    case o24 => decide
    refine hx_reti hx hb hr hlk hW ⟨(Or.inl ⟨?o25, rfl⟩), hT, hM⟩ dX9_netted_12
    case o25 => omega
end
section
set_option maxHeartbeats 4000000 in
set_option maxRecDepth 100000 in
theorem t_X10_takes_0v (l : Launch) (dC : Nat → ClassId) (dI : Nat → Nat → Nat) (dA : Nat → ClassId) (L : List Nat) (h : hx_h) (sz : Nat) (x : Nat) (i1 : Int32) (i2 : Int32) (i3 : Int32) (hT : hx_T T_tb L h) (gx : hx_g L h x 10) (qfo : Nat) (gqfo : hx_g L h qfo 81) (f_x_46 : h.2.2 x 46 = some qfo) (qhe : Nat) (gqhe : hx_g L h qhe 82) (f_x_47 : h.2.2 x 47 = some qhe) (qju : Nat) (gqju : hx_g L h qju 86) (f_x_51 : h.2.2 x 51 = some qju) (qod : Nat) (gqod : hx_g L h qod 83) (f_x_48 : h.2.2 x 48 = some qod) (qsv : Nat) (gqsv : hx_g L h qsv 85) (f_x_50 : h.2.2 x 50 = some qsv) (qsz : Nat) (gqsz : hx_g L h qsz 84) (f_x_49 : h.2.2 x 49 = some qsz) (qgd : Nat) (gqgd : hx_g L h qgd 91) (f_x_56 : h.2.2 x 56 = some qgd) (qow : Nat) (gqow : hx_g L h qow 90) (f_x_55 : h.2.2 x 55 = some qow) (qwk : Nat) (gqwk : hx_g L h qwk 89) (f_x_54 : h.2.2 x 54 = some qwk) (qpl : Nat) (gqpl : hx_g L h qpl 79) (f_x_44 : h.2.2 x 44 = some qpl) (qru : Nat) (gqru : hx_g L h qru 50) (f_x_3 : h.2.2 x 3 = some qru) (qpo : Nat) (gqpo : hx_g L h qpo 93) (f_x_60 : h.2.2 x 60 = some qpo) (qpd : Nat) (gqpd : hx_g L h qpd 94) (f_x_61 : h.2.2 x 61 = some qpd) (qps : Nat) (gqps : hx_g L h qps 95) (f_x_62 : h.2.2 x 62 = some qps) (qpk : Nat) (gqpk : hx_g L h qpk 96) (f_x_63 : h.2.2 x 63 = some qpk) (qpt : Nat) (gqpt : hx_g L h qpt 97) (f_x_64 : h.2.2 x 64 = some qpt) (qag : Nat) (gqag : hx_g L h qag 73) (f_x_38 : h.2.2 x 38 = some qag) (qby : Nat) (gqby : hx_g L h qby 72) (f_x_37 : h.2.2 x 37 = some qby) (fof : Nat → Int32) (af_qfo : h.2.1 qfo = fof) (hrf : Nat → Int32) (af_qhe : h.2.1 qhe = hrf) (udf : Nat → Int32) (af_qju : h.2.1 qju = udf) (odf : Nat → Int32) (af_qod : h.2.1 qod = odf) (svf : Nat → Int32) (af_qsv : h.2.1 qsv = svf) (szf : Nat → Int32) (af_qsz : h.2.1 qsz = szf) (gdf : Nat → Int32) (af_qgd : h.2.1 qgd = gdf) (owf : Nat → Int32) (af_qow : h.2.1 qow = owf) (wkf : Nat → Int32) (af_qwk : h.2.1 qwk = wkf) (plf : Nat → Int32) (af_qpl : h.2.1 qpl = plf) (rlf : Nat → Int32) (af_qru : h.2.1 qru = rlf) (pof : Nat → Int32) (af_qpo : h.2.1 qpo = pof) (pdf : Nat → Int32) (af_qpd : h.2.1 qpd = pdf) (psm : Nat → Int32) (af_qps : h.2.1 qps = psm) (pkf : Nat → Int32) (af_qpk : h.2.1 qpk = pkf) (pst : Nat → Int32) (af_qpt : h.2.1 qpt = pst) (agf : Nat → Int32) (af_qag : h.2.1 qag = agf) (byf : Nat → Int32) (af_qby : h.2.1 qby = byf) (c0 : Int32) (f_x_36 : h.2.1 x 36 = c0) (a0 : Int32) (f_x_1 : h.2.1 x 1 = a0) (nw0 : Int32) (f_x_0 : h.2.1 x 0 = nw0) (n0 : Int32) (f_x_59 : h.2.1 x 59 = n0) (hi3 : 0 ≤ i3.toInt) (adf psf prf : Nat → Int32) (A : Nat → hv_act) (hCA : hv_CA adf rlf psf prf a0.toInt A) (hPL : hx_PL plf c0.toInt a0.toInt) (hrb : ∀ c, c < c0.toInt.toNat → 0 ≤ (hz_RP odf szf gdf owf svf (hz_rc A plf) nw0.toInt) ((pof, pdf, psm, pkf, pst, n0.toInt.toNat) : hz_P) c ∧ (hz_RP odf szf gdf owf svf (hz_rc A plf) nw0.toInt) ((pof, pdf, psm, pkf, pst, n0.toInt.toNat) : hz_P) c ≤ 609999) : Met l yX10_takes (Cond.code yX10_takes cX10_takes 9 (some .int) :: hx_all) ({ frames := 3, cells := 0, slots := 0, locals := 71 }) (va_Pc [.ref x, .int i1, .int i2, .int i3, .int (0 : Int32)] (hx_B T_tb (P_ty dA) (dC, dI) vwCl L h sz)) (va_Qi (fun (r : Int32) (u : List Nat × hx_h) => (r.toInt = (hz_cn ((hz_RP odf szf gdf owf svf (hz_rc A plf) nw0.toInt) ((pof, pdf, psm, pkf, pst, n0.toInt.toNat) : hz_P)) (hz_mt agf byf i1.toInt i2.toInt) i3.toInt c0.toInt.toNat).2 ∧ (0 ≤ r.toInt ∧ r.toInt ≤ 100)) ∧ hx_T T_tb u.1 u.2 ∧ hx_S T_tb [(10, 67), (10, 68), (10, 69), (10, 70), (10, 71)] L h u.1 u.2) (hx_E T_tb (P_ty dA) (dC, dI) vwCl (hx_A L sz)) (hx_A L sz)) 0 0 (hx_A L sz) := by
  refine hx_met (lv := [(0, .ref x), (1, .int i1), (2, .int i2), (3, .int i3), (4, .int (0 : Int32))]) (by decide +kernel) rfl (Nat.le_of_ble_eq_true rfl) rfl ?_
  intro p e s m below meth c hx hb hml hr hlk hts0 hown hin hsz hW ls hl
  have hts : ∀ w ∈ hx_all, w.before _ s = true := fun w hw => hts0 w (List.mem_cons_of_mem _ hw)
  have hown : s.vm.findClass "SmallCourtModel" = some m.cls := hown
  have hM : hx_S T_tb [(10, 67), (10, 68), (10, 69), (10, 70), (10, 71)] L h L h := hx_S.rf
  have b_c0 := hT.gi gx tt_10 (k := 36) rfl
  rw [f_x_36] at b_c0
  have b_c0 : 0 ≤ c0.toInt ∧ c0.toInt ≤ 100 := b_c0
  have b_a0 := hT.gi gx tt_10 (k := 1) rfl
  rw [f_x_1] at b_a0
  have b_a0 : 0 ≤ a0.toInt ∧ a0.toInt ≤ 8 := b_a0
  have b_nw0 := hT.gi gx tt_10 (k := 0) rfl
  rw [f_x_0] at b_nw0
  have b_nw0 : 0 ≤ nw0.toInt ∧ nw0.toInt ≤ 7999 := b_nw0
  have b_n0 := hT.gi gx tt_10 (k := 59) rfl
  rw [f_x_59] at b_n0
  have b_n0 : 0 ≤ n0.toInt ∧ n0.toInt ≤ 600 := b_n0
  have rg93 := i32_r i3
  refine lv_iload_n hx hb dX10_takes_0 rfl (lv_at hl 3 rfl) ?_
  refine lv_istore (lv' := [(5, .int i3), (0, .ref x), (1, .int i1), (2, .int i2), (3, .int i3), (4, .int (0 : Int32))]) hx hb dX10_takes_1 hl ?o0 rfl (fun ls hl => ?_)
  case o0 => decide
  refine lv_iconst (v := 0) hx hb dX10_takes_3 ?o1 ?_
  case o1 => decide
  refine lv_istore (lv' := [(6, .int (0 : Int32)), (5, .int i3), (0, .ref x), (1, .int i1), (2, .int i2), (3, .int i3), (4, .int (0 : Int32))]) hx hb dX10_takes_4 hl ?o2 rfl (fun ls hl => ?_)
  case o2 => decide
  refine lv_iconst (v := 0) hx hb dX10_takes_6 ?o3 ?_
  case o3 => decide
  refine lv_istore (lv' := [(7, .int (0 : Int32)), (6, .int (0 : Int32)), (5, .int i3), (0, .ref x), (1, .int i1), (2, .int i2), (3, .int i3), (4, .int (0 : Int32))]) hx hb dX10_takes_7 hl ?o4 rfl (fun ls hl => ?_)
  case o4 => decide
  have loop9 : ∀ (n9 : Nat) (iv9_5 iv9_6 iv9_7 : Int32) (H : Heap) (locs : List Loc) (hL1 : List Nat) (hl1 : hx_h), 0 ≤ iv9_5.toInt → iv9_5.toInt ≤ 2147483647 → 0 ≤ iv9_6.toInt → iv9_6.toInt ≤ 100 → 0 ≤ iv9_7.toInt → iv9_7.toInt ≤ 100 → (hz_cn ((hz_RP odf szf gdf owf svf (hz_rc A plf) nw0.toInt) ((pof, pdf, psm, pkf, pst, n0.toInt.toNat) : hz_P)) (hz_mt agf byf i1.toInt i2.toInt) i3.toInt (iv9_7.toInt).toNat = (iv9_5.toInt, iv9_6.toInt)) → (iv9_7.toInt ≤ c0.toInt) → (iv9_6.toInt ≤ iv9_7.toInt) → ∀ (ls : Array Slot), 100 - iv9_7.toInt < (n9 : Int) → hx_W T_tb (P_ty dA) (dC, dI) vwCl (hx_A L sz) s.heap hL1 hl1 s H locs → hx_T T_tb hL1 hl1 → hx_S T_tb [(10, 67), (10, 68), (10, 69), (10, 70), (10, 71)] L h hL1 hl1 → lv_has ls 9 [(7, .int iv9_7), (6, .int iv9_6), (5, .int iv9_5), (0, .ref x), (1, .int i1), (2, .int i2), (3, .int i3), (4, .int (0 : Int32))] → W p l e ({ frames := 3, cells := 0, slots := 0, locals := 71 }) s m ([.ref x, .int i1, .int i2, .int i3, .int (0 : Int32)] : List Value).toArray below meth c H locs 0 0 (MQ below (va_Qi (fun (r : Int32) (u : List Nat × hx_h) => (r.toInt = (hz_cn ((hz_RP odf szf gdf owf svf (hz_rc A plf) nw0.toInt) ((pof, pdf, psm, pkf, pst, n0.toInt.toNat) : hz_P)) (hz_mt agf byf i1.toInt i2.toInt) i3.toInt c0.toInt.toNat).2 ∧ (0 ≤ r.toInt ∧ r.toInt ≤ 100)) ∧ hx_T T_tb u.1 u.2 ∧ hx_S T_tb [(10, 67), (10, 68), (10, 69), (10, 70), (10, 71)] L h u.1 u.2) (hx_E T_tb (P_ty dA) (dC, dI) vwCl (hx_A L sz)) (hx_A L sz)) ([.ref x, .int i1, .int i2, .int i3, .int (0 : Int32)] : List Value).toArray s 0 0 (hx_A L sz)) (F0 m 9 ls []) := by
    intro n9
    induction n9 with
    | zero => intro iv9_5 iv9_6 iv9_7 H locs hL1 hl1 bliv9_5 buiv9_5 bliv9_6 buiv9_6 bliv9_7 buiv9_7 vi9_0 vi9_1 vi9_2 ls hn9; exfalso; omega
    | succ n9 ih9 =>
      intro iv9_5 iv9_6 iv9_7 H locs hL1 hl1 bliv9_5 buiv9_5 bliv9_6 buiv9_6 bliv9_7 buiv9_7 vi9_0 vi9_1 vi9_2 ls hn9 hW hT hM   hl
      refine lv_iload hx hb dX10_takes_9 (lv_at hl 0 rfl) ?_
      refine lv_aload_n hx hb dX10_takes_11 rfl (lv_at hl 3 rfl) ?_
      refine hk_geti hx hb hts hC_10 hown hW (gx.S hM) tt_10 36 ?o5 rfl kw_1179 ⟨rfl, rfl, rfl⟩ ((hM.o gx trivial rfl).1.trans f_x_36) dX10_takes_12 ?_
      case o5 => decide
      refine hb_icmp_ge (zx := iv9_7.toInt) (zy := c0.toInt) (tgt := 102) hx hb rfl rfl dX10_takes_15 ?o6 (fun c_1 => ?_) (fun c_1 => ?_)
      case o6 => decide
      · skip
        have hend9 := vi9_0; rw [show iv9_7.toInt.toNat = c0.toInt.toNat by omega] at hend9
        refine lv_iload hx hb dX10_takes_102 (lv_at hl 1 rfl) ?_
        refine hx_reti hx hb hr hlk hW ⟨⟨(congrArg Prod.snd hend9).symm, ?o7, ?o8⟩, hT, hM⟩ dX10_takes_104
        case o7 => omega
        case o8 => omega
      · skip
        refine lv_iload hx hb dX10_takes_18 (lv_at hl 2 rfl) ?_
        refine hb_if_le (zx := iv9_5.toInt) (tgt := 102) hx hb rfl dX10_takes_20 ?o9 (fun c_2 => ?_) (fun c_2 => ?_)
        case o9 => decide
        · skip
          have hend9 := hz_cn_z vi9_0 ?o10 c0.toInt.toNat ?o11
          case o10 => omega
          case o11 => omega
          refine lv_iload hx hb dX10_takes_102 (lv_at hl 1 rfl) ?_
          refine hx_reti hx hb hr hlk hW ⟨⟨(congrArg Prod.snd hend9).symm, ?o12, ?o13⟩, hT, hM⟩ dX10_takes_104
          case o12 => omega
          case o13 => omega
        · skip
          refine lv_aload_n hx hb dX10_takes_23 rfl (lv_at hl 3 rfl) ?_
          refine hk_getr hx hb hts hC_10 hown hW (gx.S hM) tt_10 38 ?o14 rfl kw_1181 ⟨rfl, rfl, rfl⟩ ((hM.o gx trivial rfl).2.trans f_x_38) dX10_takes_24 ?_
          case o14 => decide
          refine lv_iload hx hb dX10_takes_27 (lv_at hl 0 rfl) ?_
          refine hx_iald hx hb hW hT (gqag.S hM) tt_73 rfl ⟨?o15, ?o16⟩ dX10_takes_29 (fun x_3 ex_3 lx_3 ux_3 => ?_)
          case o15 => omega
          case o16 => omega
          have ax_3 : x_3 = agf iv9_7.toNatClampNeg := ex_3.trans (congrFun (hx_afS hM gqag rfl af_qag) _)
          refine lv_iload_n hx hb dX10_takes_30 rfl (lv_at hl 4 rfl) ?_
          refine hb_icmp_ne (zx := x_3.toInt) (zy := i1.toInt) (tgt := 96) hx hb rfl rfl dX10_takes_31 ?o17 (fun c_4 => ?_) (fun c_4 => ?_)
          case o17 => decide
          · skip
            obtain ⟨x_5, ex_5⟩ : ∃ y : Int32, y = iv9_7 + Int32.ofInt 1 := ⟨_, rfl⟩
            have rg_6 := i32_r iv9_7
            have zx_5 : x_5.toInt = iv9_7.toInt + (1) := ?o18
            case o18 =>
              rw [ex_5]
              refine i32_add rfl ?o19 ?o20 ?o21
              case o19 => decide
              case o20 => omega
              case o21 => omega
            refine lv_iinc (v := x_5) (lv' := [(7, .int x_5), (6, .int iv9_6), (5, .int iv9_5), (0, .ref x), (1, .int i1), (2, .int i2), (3, .int i3), (4, .int (0 : Int32))]) hx hb dX10_takes_96 hl (k := 0) rfl ex_5.symm ?o22 rfl (fun ls hl => ?_)
            case o22 => decide
            refine lv_goto (tgt := 9) hx hb dX10_takes_99 ?o23 ?_
            case o23 => decide
            refine ih9 iv9_5 iv9_6 x_5 _ _ hL1 hl1 ?o24 ?o25 ?o26 ?o27 ?o28 ?o29 (hz_cn_n vi9_0 ?o30 (fun z => by have z9 := (hz_mt_t.mp z.2.1).1; rw [show agf iv9_7.toInt.toNat = x_3 from ax_3.symm] at z9; omega) zx_5) ?o31 ?o32 ls ?o33 hW hT hM   (lv_sub hl [0, 1, 2, 3, 4, 5, 6, 7] rfl)
            case o24 => omega
            case o25 => omega
            case o26 => omega
            case o27 => omega
            case o28 => omega
            case o29 => omega
            case o30 => omega
            case o31 => omega
            case o32 => omega
            case o33 => omega
          · skip
            refine lv_aload_n hx hb dX10_takes_34 rfl (lv_at hl 3 rfl) ?_
            refine hk_getr hx hb hts hC_10 hown hW (gx.S hM) tt_10 37 ?o34 rfl kw_1180 ⟨rfl, rfl, rfl⟩ ((hM.o gx trivial rfl).2.trans f_x_37) dX10_takes_35 ?_
            case o34 => decide
            refine lv_iload hx hb dX10_takes_38 (lv_at hl 0 rfl) ?_
            refine hx_iald hx hb hW hT (gqby.S hM) tt_72 rfl ⟨?o35, ?o36⟩ dX10_takes_40 (fun x_7 ex_7 lx_7 ux_7 => ?_)
            case o35 => omega
            case o36 => omega
            have ax_7 : x_7 = byf iv9_7.toNatClampNeg := ex_7.trans (congrFun (hx_afS hM gqby rfl af_qby) _)
            refine lv_iload_n hx hb dX10_takes_41 rfl (lv_at hl 5 rfl) ?_
            refine hb_icmp_ne (zx := x_7.toInt) (zy := i2.toInt) (tgt := 96) hx hb rfl rfl dX10_takes_42 ?o37 (fun c_8 => ?_) (fun c_8 => ?_)
            case o37 => decide
            · skip
              obtain ⟨x_9, ex_9⟩ : ∃ y : Int32, y = iv9_7 + Int32.ofInt 1 := ⟨_, rfl⟩
              have rg_10 := i32_r iv9_7
              have zx_9 : x_9.toInt = iv9_7.toInt + (1) := ?o38
              case o38 =>
                rw [ex_9]
                refine i32_add rfl ?o39 ?o40 ?o41
                case o39 => decide
                case o40 => omega
                case o41 => omega
              refine lv_iinc (v := x_9) (lv' := [(7, .int x_9), (6, .int iv9_6), (5, .int iv9_5), (0, .ref x), (1, .int i1), (2, .int i2), (3, .int i3), (4, .int (0 : Int32))]) hx hb dX10_takes_96 hl (k := 0) rfl ex_9.symm ?o42 rfl (fun ls hl => ?_)
              case o42 => decide
              refine lv_goto (tgt := 9) hx hb dX10_takes_99 ?o43 ?_
              case o43 => decide
              refine ih9 iv9_5 iv9_6 x_9 _ _ hL1 hl1 ?o44 ?o45 ?o46 ?o47 ?o48 ?o49 (hz_cn_n vi9_0 ?o50 (fun z => by have z9 := (hz_mt_t.mp z.2.1).2; rw [show byf iv9_7.toInt.toNat = x_7 from ax_7.symm] at z9; omega) zx_9) ?o51 ?o52 ls ?o53 hW hT hM   (lv_sub hl [0, 1, 2, 3, 4, 5, 6, 7] rfl)
              case o44 => omega
              case o45 => omega
              case o46 => omega
              case o47 => omega
              case o48 => omega
              case o49 => omega
              case o50 => omega
              case o51 => omega
              case o52 => omega
              case o53 => omega
            · skip
              refine lv_aload_n hx hb dX10_takes_45 rfl (lv_at hl 3 rfl) ?_
              refine lv_iload hx hb dX10_takes_46 (lv_at hl 0 rfl) ?_
              refine hx_goi (hx_runV (As := [.int iv9_7]) (rest := []) ⟨hx, hb, hml, hown, hts⟩ hW (gx.S hM) tt_10 (T := TX10) (N := 98) rfl (t_X10_isOpen_v l dC dI dA hL1 hl1 H.size x iv9_7 hT (gx.S hM) qfo (gqfo.S hM) ((hM.o gx trivial rfl).2.trans f_x_46) qhe (gqhe.S hM) ((hM.o gx trivial rfl).2.trans f_x_47) qju (gqju.S hM) ((hM.o gx trivial rfl).2.trans f_x_51) qod (gqod.S hM) ((hM.o gx trivial rfl).2.trans f_x_48) qsv (gqsv.S hM) ((hM.o gx trivial rfl).2.trans f_x_50) qsz (gqsz.S hM) ((hM.o gx trivial rfl).2.trans f_x_49) qgd (gqgd.S hM) ((hM.o gx trivial rfl).2.trans f_x_56) qow (gqow.S hM) ((hM.o gx trivial rfl).2.trans f_x_55) qwk (gqwk.S hM) ((hM.o gx trivial rfl).2.trans f_x_54) qpl (gqpl.S hM) ((hM.o gx trivial rfl).2.trans f_x_44) qru (gqru.S hM) ((hM.o gx trivial rfl).2.trans f_x_3) qpo (gqpo.S hM) ((hM.o gx trivial rfl).2.trans f_x_60) qpd (gqpd.S hM) ((hM.o gx trivial rfl).2.trans f_x_61) qps (gqps.S hM) ((hM.o gx trivial rfl).2.trans f_x_62) qpk (gqpk.S hM) ((hM.o gx trivial rfl).2.trans f_x_63) qpt (gqpt.S hM) ((hM.o gx trivial rfl).2.trans f_x_64) fof (hx_afS hM gqfo rfl af_qfo) hrf (hx_afS hM gqhe rfl af_qhe) udf (hx_afS hM gqju rfl af_qju) odf (hx_afS hM gqod rfl af_qod) svf (hx_afS hM gqsv rfl af_qsv) szf (hx_afS hM gqsz rfl af_qsz) gdf (hx_afS hM gqgd rfl af_qgd) owf (hx_afS hM gqow rfl af_qow) wkf (hx_afS hM gqwk rfl af_qwk) plf (hx_afS hM gqpl rfl af_qpl) rlf (hx_afS hM gqru rfl af_qru) pof (hx_afS hM gqpo rfl af_qpo) pdf (hx_afS hM gqpd rfl af_qpd) psm (hx_afS hM gqps rfl af_qps) pkf (hx_afS hM gqpk rfl af_qpk) pst (hx_afS hM gqpt rfl af_qpt) c0 ((hM.o gx trivial rfl).1.trans f_x_36) a0 ((hM.o gx trivial rfl).1.trans f_x_1) nw0 ((hM.o gx trivial rfl).1.trans f_x_0) n0 ((hM.o gx trivial rfl).1.trans f_x_59) ⟨?o54, ?o55⟩ adf psf prf A hCA hPL) (cwV 1 hts (hx_gV kw_1637 kw_1634 kw_1636 kw_81 kw_103) rfl rfl rfl (by decide +kernel) ⟨Nat.le_of_ble_eq_true rfl, Nat.le_of_ble_eq_true rfl⟩) rfl hl.1 rfl (Nat.le_of_ble_eq_true rfl) dX10_takes_48 ⟨Nat.le_of_ble_eq_true rfl, Nat.le_of_ble_eq_true rfl⟩) hW (fun r_13 L_11 h_12 H locs p_14 hW => ?_)
              case o54 => omega
              case o55 => omega
              obtain ⟨⟨w_16, fw_16, hr_15⟩, hT, hs⟩ := p_14
              replace hT : hx_T T_tb L_11 h_12 := hT
              replace hs : hx_S T_tb [(10, 67), (10, 68), (10, 69), (10, 70), (10, 71)] hL1 hl1 L_11 h_12 := hs
              replace ex_3 := ex_3.trans (hs.a (gqag.S hM) rfl _).1.symm
              replace ex_7 := ex_7.trans (hs.a (gqby.S hM) rfl _).1.symm
              replace hM := hM.tr (hs.mono ?o56)
              case o56 => decide
              have fw_16 : h_12.2.1 x 68 = w_16 := fw_16
              have bw_16 := hT.gi (gx.S hM) tt_10 (k := 68) rfl
              rw [fw_16] at bw_16
              have bw_16 : 0 ≤ w_16.toInt ∧ w_16.toInt ≤ 610000 := bw_16
              have hro9 : w_16.toInt = (hz_RP odf szf gdf owf svf (hz_rc A plf) nw0.toInt) ((pof, pdf, psm, pkf, pst, n0.toInt.toNat) : hz_P) iv9_7.toInt.toNat := hr_15.2
              have hop9 : (r_13.toInt = 1 ∧ 0 < w_16.toInt) ∨ (r_13.toInt = 0 ∧ ¬ 0 < w_16.toInt) := ?o57
              case o57 =>
                rw [hr_15.2]
                exact hr_15.1
              have hrv9 := hrb iv9_7.toInt.toNat (by omega); rw [← hro9] at hrv9
              clear hr_15
              refine hb_if_ne (zx := r_13.toInt) (tgt := 57) hx hb rfl dX10_takes_51 ?o58 (fun c_17 => ?_) (fun c_17 => ?_)
              case o58 => decide
              · skip
                have hmt9 : hz_mt agf byf i1.toInt i2.toInt iv9_7.toInt.toNat = true := hz_mt_t.mpr ⟨(by rw [show agf iv9_7.toInt.toNat = x_3 from ax_3.symm]; omega), (by rw [show byf iv9_7.toInt.toNat = x_7 from ax_7.symm]; omega)⟩
                refine lv_iload hx hb dX10_takes_57 (lv_at hl 2 rfl) ?_
                refine lv_aload_n hx hb dX10_takes_59 rfl (lv_at hl 3 rfl) ?_
                refine hk_geti hx hb hts hC_10 hown hW (gx.S hM) tt_10 68 ?o59 rfl kw_1211 ⟨rfl, rfl, rfl⟩ fw_16 dX10_takes_60 ?_
                case o59 => decide
                refine hx_goi (hx_runS (As := [.int iv9_5, .int w_16]) (rest := []) ⟨hx, hb, hml, hown, hts⟩ hW (t_X10_lesser_3 l dC dI dA L_11 h_12 H.size iv9_5 w_16 hT) (va_cwS 2 hts (hx_gS kw_1705 kw_1703 kw_1704 kw_103) rfl rfl rfl (by decide +kernel) ⟨Nat.le_of_ble_eq_true rfl, Nat.le_of_ble_eq_true rfl⟩) rfl hl.1 rfl (Nat.le_of_ble_eq_true rfl) dX10_takes_63 ⟨Nat.le_of_ble_eq_true rfl, Nat.le_of_ble_eq_true rfl⟩) hW (fun r_20 L_18 h_19 H locs p_21 hW => ?_)
                obtain ⟨hr_22, hT, hs⟩ := p_21
                replace hT : hx_T T_tb L_18 h_19 := hT
                replace hs : hx_S T_tb [] L_11 h_12 L_18 h_19 := hs
                replace fw_16 := (hs.o (gx.S hM) trivial rfl).1.trans fw_16
                replace ex_3 := ex_3.trans (hs.a (gqag.S hM) rfl _).1.symm
                replace ex_7 := ex_7.trans (hs.a (gqby.S hM) rfl _).1.symm
                replace hM := hM.tr (hs.mono ?o60)
                case o60 => decide
                have hmi9 := hz_mi_2 hr_22; have hmb9 := hz_mi_l (a := iv9_5.toInt) (b := w_16.toInt); have hmc9 := hz_mi_c (a := iv9_5.toInt) (b := w_16.toInt)
                clear hr_22
                refine lv_istore (lv' := [(8, .int r_20), (7, .int iv9_7), (6, .int iv9_6), (5, .int iv9_5), (0, .ref x), (1, .int i1), (2, .int i2), (3, .int i3), (4, .int (0 : Int32))]) hx hb dX10_takes_66 hl ?o61 rfl (fun ls hl => ?_)
                case o61 => decide
                refine lv_iload hx hb dX10_takes_68 (lv_at hl 8 rfl) ?_
                refine hb_if_eq (zx := 0) (tgt := 86) hx hb ?o62 dX10_takes_70 ?o63 (fun c_23 => ?_) (fun c_23 => ?o64)
                case o62 => decide
                case o63 => decide
                case o64 =>
                  exfalso
                  omega
                refine lv_iload hx hb dX10_takes_86 (lv_at hl 3 rfl) ?_
                refine lv_iload hx hb dX10_takes_88 (lv_at hl 0 rfl) ?_
                refine lv_isub hx hb dX10_takes_90 ?_
                have rg_24 := i32_r iv9_5
                have rg_25 := i32_r r_20
                refine lv_topi (fun x_26 ex_26 => ?_)
                have zx_26 : x_26.toInt = iv9_5.toInt - r_20.toInt := ?o65
                case o65 =>
                  rw [ex_26]
                  refine i32_sub rfl rfl ?o66 ?o67
                  case o66 => omega
                  case o67 => omega
                refine lv_istore (lv' := [(5, .int x_26), (8, .int r_20), (7, .int iv9_7), (6, .int iv9_6), (0, .ref x), (1, .int i1), (2, .int i2), (3, .int i3), (4, .int (0 : Int32))]) hx hb dX10_takes_91 hl ?o68 rfl (fun ls hl => ?_)
                case o68 => decide
                obtain ⟨x_27, ex_27⟩ : ∃ y : Int32, y = iv9_6 + Int32.ofInt 1 := ⟨_, rfl⟩
                have rg_28 := i32_r iv9_6
                have zx_27 : x_27.toInt = iv9_6.toInt + (1) := ?o69
                case o69 =>
                  rw [ex_27]
                  refine i32_add rfl ?o70 ?o71 ?o72
                  case o70 => decide
                  case o71 => omega
                  case o72 => omega
                refine lv_iinc (v := x_27) (lv' := [(6, .int x_27), (5, .int x_26), (8, .int r_20), (7, .int iv9_7), (0, .ref x), (1, .int i1), (2, .int i2), (3, .int i3), (4, .int (0 : Int32))]) hx hb dX10_takes_93 hl (k := 3) rfl ex_27.symm ?o73 rfl (fun ls hl => ?_)
                case o73 => decide
                obtain ⟨x_29, ex_29⟩ : ∃ y : Int32, y = iv9_7 + Int32.ofInt 1 := ⟨_, rfl⟩
                have rg_30 := i32_r iv9_7
                have zx_29 : x_29.toInt = iv9_7.toInt + (1) := ?o74
                case o74 =>
                  rw [ex_29]
                  refine i32_add rfl ?o75 ?o76 ?o77
                  case o75 => decide
                  case o76 => omega
                  case o77 => omega
                refine lv_iinc (v := x_29) (lv' := [(7, .int x_29), (6, .int x_27), (5, .int x_26), (8, .int r_20), (0, .ref x), (1, .int i1), (2, .int i2), (3, .int i3), (4, .int (0 : Int32))]) hx hb dX10_takes_96 hl (k := 3) rfl ex_29.symm ?o78 rfl (fun ls hl => ?_)
                case o78 => decide
                refine lv_goto (tgt := 9) hx hb dX10_takes_99 ?o79 ?_
                case o79 => decide
                refine ih9 x_26 x_27 x_29 _ _ L_18 h_19 ?o80 ?o81 ?o82 ?o83 ?o84 ?o85 (hz_cn_y vi9_0 ?o86 ?o87 hmt9 (by rw [← hro9]; omega) (by rw [← hro9]; exact hmi9) zx_26 zx_27 zx_29) ?o88 ?o89 ls ?o90 hW hT hM   (lv_sub hl [0, 1, 2, 4, 5, 6, 7, 8] rfl)
                case o80 => omega
                case o81 => omega
                case o82 => omega
                case o83 => omega
                case o84 => omega
                case o85 => omega
                case o86 => omega
                case o87 => omega
                case o88 => omega
                case o89 => omega
                case o90 => omega
              · skip
                refine lv_goto (tgt := 96) hx hb dX10_takes_54 ?o91 ?_
                case o91 => decide
                obtain ⟨x_31, ex_31⟩ : ∃ y : Int32, y = iv9_7 + Int32.ofInt 1 := ⟨_, rfl⟩
                have rg_32 := i32_r iv9_7
                have zx_31 : x_31.toInt = iv9_7.toInt + (1) := ?o92
                case o92 =>
                  rw [ex_31]
                  refine i32_add rfl ?o93 ?o94 ?o95
                  case o93 => decide
                  case o94 => omega
                  case o95 => omega
                refine lv_iinc (v := x_31) (lv' := [(7, .int x_31), (6, .int iv9_6), (5, .int iv9_5), (0, .ref x), (1, .int i1), (2, .int i2), (3, .int i3), (4, .int (0 : Int32))]) hx hb dX10_takes_96 hl (k := 0) rfl ex_31.symm ?o96 rfl (fun ls hl => ?_)
                case o96 => decide
                refine lv_goto (tgt := 9) hx hb dX10_takes_99 ?o97 ?_
                case o97 => decide
                refine ih9 iv9_5 iv9_6 x_31 _ _ L_11 h_12 ?o98 ?o99 ?o100 ?o101 ?o102 ?o103 (hz_cn_n vi9_0 ?o104 (fun z => by have z9 := z.2.2; rw [← hro9] at z9; omega) zx_31) ?o105 ?o106 ls ?o107 hW hT hM   (lv_sub hl [0, 1, 2, 3, 4, 5, 6, 7] rfl)
                case o98 => omega
                case o99 => omega
                case o100 => omega
                case o101 => omega
                case o102 => omega
                case o103 => omega
                case o104 => omega
                case o105 => omega
                case o106 => omega
                case o107 => omega
  have zk_0 : (0 : Int32).toInt = 0 := ?o108
  case o108 => decide
  have zk_0 : (0 : Int32).toInt = 0 := ?o109
  case o109 => decide
  refine loop9 101 i3 (0 : Int32) (0 : Int32) _ _ L h ?o110 ?o111 ?o112 ?o113 ?o114 ?o115 (by rw [zk_0]; rfl) ?o116 ?o117 ls ?o118 hW hT hM   hl
  case o110 => omega
  case o111 => omega
  case o112 => decide
  case o113 => decide
  case o114 => decide
  case o115 => decide
  case o116 => omega
  case o117 => omega
  case o118 => omega


set_option maxHeartbeats 4000000 in
set_option maxRecDepth 100000 in
theorem t_X10_takes_1v (l : Launch) (dC : Nat → ClassId) (dI : Nat → Nat → Nat) (dA : Nat → ClassId) (L : List Nat) (h : hx_h) (sz : Nat) (x : Nat) (i1 : Int32) (i2 : Int32) (i3 : Int32) (hT : hx_T T_tb L h) (gx : hx_g L h x 10) (qfo : Nat) (gqfo : hx_g L h qfo 81) (f_x_46 : h.2.2 x 46 = some qfo) (qhe : Nat) (gqhe : hx_g L h qhe 82) (f_x_47 : h.2.2 x 47 = some qhe) (qju : Nat) (gqju : hx_g L h qju 86) (f_x_51 : h.2.2 x 51 = some qju) (qod : Nat) (gqod : hx_g L h qod 83) (f_x_48 : h.2.2 x 48 = some qod) (qsv : Nat) (gqsv : hx_g L h qsv 85) (f_x_50 : h.2.2 x 50 = some qsv) (qsz : Nat) (gqsz : hx_g L h qsz 84) (f_x_49 : h.2.2 x 49 = some qsz) (qgd : Nat) (gqgd : hx_g L h qgd 91) (f_x_56 : h.2.2 x 56 = some qgd) (qow : Nat) (gqow : hx_g L h qow 90) (f_x_55 : h.2.2 x 55 = some qow) (qwk : Nat) (gqwk : hx_g L h qwk 89) (f_x_54 : h.2.2 x 54 = some qwk) (qpl : Nat) (gqpl : hx_g L h qpl 79) (f_x_44 : h.2.2 x 44 = some qpl) (qru : Nat) (gqru : hx_g L h qru 50) (f_x_3 : h.2.2 x 3 = some qru) (qpo : Nat) (gqpo : hx_g L h qpo 93) (f_x_60 : h.2.2 x 60 = some qpo) (qpd : Nat) (gqpd : hx_g L h qpd 94) (f_x_61 : h.2.2 x 61 = some qpd) (qps : Nat) (gqps : hx_g L h qps 95) (f_x_62 : h.2.2 x 62 = some qps) (qpk : Nat) (gqpk : hx_g L h qpk 96) (f_x_63 : h.2.2 x 63 = some qpk) (qpt : Nat) (gqpt : hx_g L h qpt 97) (f_x_64 : h.2.2 x 64 = some qpt) (qag : Nat) (gqag : hx_g L h qag 73) (f_x_38 : h.2.2 x 38 = some qag) (qby : Nat) (gqby : hx_g L h qby 72) (f_x_37 : h.2.2 x 37 = some qby) (fof : Nat → Int32) (af_qfo : h.2.1 qfo = fof) (hrf : Nat → Int32) (af_qhe : h.2.1 qhe = hrf) (udf : Nat → Int32) (af_qju : h.2.1 qju = udf) (odf : Nat → Int32) (af_qod : h.2.1 qod = odf) (svf : Nat → Int32) (af_qsv : h.2.1 qsv = svf) (szf : Nat → Int32) (af_qsz : h.2.1 qsz = szf) (gdf : Nat → Int32) (af_qgd : h.2.1 qgd = gdf) (owf : Nat → Int32) (af_qow : h.2.1 qow = owf) (wkf : Nat → Int32) (af_qwk : h.2.1 qwk = wkf) (plf : Nat → Int32) (af_qpl : h.2.1 qpl = plf) (rlf : Nat → Int32) (af_qru : h.2.1 qru = rlf) (pof : Nat → Int32) (af_qpo : h.2.1 qpo = pof) (pdf : Nat → Int32) (af_qpd : h.2.1 qpd = pdf) (psm : Nat → Int32) (af_qps : h.2.1 qps = psm) (pkf : Nat → Int32) (af_qpk : h.2.1 qpk = pkf) (pst : Nat → Int32) (af_qpt : h.2.1 qpt = pst) (agf : Nat → Int32) (af_qag : h.2.1 qag = agf) (byf : Nat → Int32) (af_qby : h.2.1 qby = byf) (c0 : Int32) (f_x_36 : h.2.1 x 36 = c0) (a0 : Int32) (f_x_1 : h.2.1 x 1 = a0) (nw0 : Int32) (f_x_0 : h.2.1 x 0 = nw0) (n0 : Int32) (f_x_59 : h.2.1 x 59 = n0) (hi3 : 0 ≤ i3.toInt) (adf psf prf : Nat → Int32) (A : Nat → hv_act) (hCA : hv_CA adf rlf psf prf a0.toInt A) (hPL : hx_PL plf c0.toInt a0.toInt) (hrb : ∀ c, c < c0.toInt.toNat → 0 ≤ (hz_RP odf szf gdf owf svf (hz_rc A plf) nw0.toInt) ((pof, pdf, psm, pkf, pst, n0.toInt.toNat) : hz_P) c ∧ (hz_RP odf szf gdf owf svf (hz_rc A plf) nw0.toInt) ((pof, pdf, psm, pkf, pst, n0.toInt.toNat) : hz_P) c ≤ 609999) (h600 : (n0.toInt.toNat : Int) + (hz_cn ((hz_RP odf szf gdf owf svf (hz_rc A plf) nw0.toInt) ((pof, pdf, psm, pkf, pst, n0.toInt.toNat) : hz_P)) (hz_mt agf byf i1.toInt i2.toInt) i3.toInt c0.toInt.toNat).2 ≤ 600) : Met l yX10_takes (Cond.code yX10_takes cX10_takes 9 (some .int) :: hx_all) ({ frames := 3, cells := 0, slots := 0, locals := 71 }) (va_Pc [.ref x, .int i1, .int i2, .int i3, .int (1 : Int32)] (hx_B T_tb (P_ty dA) (dC, dI) vwCl L h sz)) (va_Qi (fun (r : Int32) (u : List Nat × hx_h) => (∃ (n1 : Int32) (pof1 : Nat → Int32) (pdf1 : Nat → Int32) (psm1 : Nat → Int32) (pkf1 : Nat → Int32) (pst1 : Nat → Int32), u.2.2.1 x 59 = n1 ∧ u.2.2.1 qpo = pof1 ∧ u.2.2.1 qpd = pdf1 ∧ u.2.2.1 qps = psm1 ∧ u.2.2.1 qpk = pkf1 ∧ u.2.2.1 qpt = pst1 ∧ (((pof1, pdf1, psm1, pkf1, pst1, n1.toInt.toNat) : hz_P) = (hz_tk (hz_RP odf szf gdf owf svf (hz_rc A plf) nw0.toInt) (hz_mt agf byf i1.toInt i2.toInt) nw0 ((pof, pdf, psm, pkf, pst, n0.toInt.toNat) : hz_P) i3.toInt c0.toInt.toNat).1)) ∧ hx_T T_tb u.1 u.2 ∧ hx_S T_tb [(10, 59), (10, 67), (10, 68), (10, 69), (10, 70), (10, 71), (93, 0), (94, 0), (95, 0), (96, 0), (97, 0)] L h u.1 u.2) (hx_E T_tb (P_ty dA) (dC, dI) vwCl (hx_A L sz)) (hx_A L sz)) 0 0 (hx_A L sz) := by
  refine hx_met (lv := [(0, .ref x), (1, .int i1), (2, .int i2), (3, .int i3), (4, .int (1 : Int32))]) (by decide +kernel) rfl (Nat.le_of_ble_eq_true rfl) rfl ?_
  intro p e s m below meth c hx hb hml hr hlk hts0 hown hin hsz hW ls hl
  have hts : ∀ w ∈ hx_all, w.before _ s = true := fun w hw => hts0 w (List.mem_cons_of_mem _ hw)
  have hown : s.vm.findClass "SmallCourtModel" = some m.cls := hown
  have hM : hx_S T_tb [(10, 59), (10, 67), (10, 68), (10, 69), (10, 70), (10, 71), (93, 0), (94, 0), (95, 0), (96, 0), (97, 0)] L h L h := hx_S.rf
  have b_c0 := hT.gi gx tt_10 (k := 36) rfl
  rw [f_x_36] at b_c0
  have b_c0 : 0 ≤ c0.toInt ∧ c0.toInt ≤ 100 := b_c0
  have b_a0 := hT.gi gx tt_10 (k := 1) rfl
  rw [f_x_1] at b_a0
  have b_a0 : 0 ≤ a0.toInt ∧ a0.toInt ≤ 8 := b_a0
  have b_nw0 := hT.gi gx tt_10 (k := 0) rfl
  rw [f_x_0] at b_nw0
  have b_nw0 : 0 ≤ nw0.toInt ∧ nw0.toInt ≤ 7999 := b_nw0
  have b_n0 := hT.gi gx tt_10 (k := 59) rfl
  rw [f_x_59] at b_n0
  have b_n0 : 0 ≤ n0.toInt ∧ n0.toInt ≤ 600 := b_n0
  have rg93 := i32_r i3
  have HR9 : hz_HR (hz_RP odf szf gdf owf svf (hz_rc A plf) nw0.toInt) nw0 c0.toInt.toNat := hz_RP_HR ?o0
  case o0 => omega
  have HN9 : ∀ (P : hz_P) (c : Nat), 0 ≤ (hz_RP odf szf gdf owf svf (hz_rc A plf) nw0.toInt) P c := hz_RP_N
  have HB9 : hz_RB (hz_RP odf szf gdf owf svf (hz_rc A plf) nw0.toInt) c0.toInt.toNat ((pof, pdf, psm, pkf, pst, n0.toInt.toNat) : hz_P) := hrb
  refine lv_iload_n hx hb dX10_takes_0 rfl (lv_at hl 3 rfl) ?_
  refine lv_istore (lv' := [(5, .int i3), (0, .ref x), (1, .int i1), (2, .int i2), (3, .int i3), (4, .int (1 : Int32))]) hx hb dX10_takes_1 hl ?o1 rfl (fun ls hl => ?_)
  case o1 => decide
  refine lv_iconst (v := 0) hx hb dX10_takes_3 ?o2 ?_
  case o2 => decide
  refine lv_istore (lv' := [(6, .int (0 : Int32)), (5, .int i3), (0, .ref x), (1, .int i1), (2, .int i2), (3, .int i3), (4, .int (1 : Int32))]) hx hb dX10_takes_4 hl ?o3 rfl (fun ls hl => ?_)
  case o3 => decide
  refine lv_iconst (v := 0) hx hb dX10_takes_6 ?o4 ?_
  case o4 => decide
  refine lv_istore (lv' := [(7, .int (0 : Int32)), (6, .int (0 : Int32)), (5, .int i3), (0, .ref x), (1, .int i1), (2, .int i2), (3, .int i3), (4, .int (1 : Int32))]) hx hb dX10_takes_7 hl ?o5 rfl (fun ls hl => ?_)
  case o5 => decide
  have loop9 : ∀ (n9 : Nat) (iv9_5 iv9_6 iv9_7 fw9_x_59 : Int32) (ia9_qpo ia9_qpd ia9_qps ia9_qpk ia9_qpt : Nat → Int32) (H : Heap) (locs : List Loc) (hL1 : List Nat) (hl1 : hx_h), 0 ≤ iv9_5.toInt → iv9_5.toInt ≤ 2147483647 → 0 ≤ iv9_6.toInt → iv9_6.toInt ≤ 100 → 0 ≤ iv9_7.toInt → iv9_7.toInt ≤ 100 → 0 ≤ fw9_x_59.toInt → fw9_x_59.toInt ≤ 600 → (hz_tk (hz_RP odf szf gdf owf svf (hz_rc A plf) nw0.toInt) (hz_mt agf byf i1.toInt i2.toInt) nw0 ((pof, pdf, psm, pkf, pst, n0.toInt.toNat) : hz_P) i3.toInt (iv9_7.toInt).toNat = (((ia9_qpo, ia9_qpd, ia9_qps, ia9_qpk, ia9_qpt, (fw9_x_59.toInt).toNat) : hz_P), iv9_5.toInt)) → (iv9_7.toInt ≤ c0.toInt) → (iv9_6.toInt ≤ iv9_7.toInt) → ∀ (ls : Array Slot), 100 - iv9_7.toInt < (n9 : Int) → hx_W T_tb (P_ty dA) (dC, dI) vwCl (hx_A L sz) s.heap hL1 hl1 s H locs → hx_T T_tb hL1 hl1 → hx_S T_tb [(10, 59), (10, 67), (10, 68), (10, 69), (10, 70), (10, 71), (93, 0), (94, 0), (95, 0), (96, 0), (97, 0)] L h hL1 hl1 → hl1.2.1 x 59 = fw9_x_59 → hl1.2.1 qpo = ia9_qpo → hl1.2.1 qpd = ia9_qpd → hl1.2.1 qps = ia9_qps → hl1.2.1 qpk = ia9_qpk → hl1.2.1 qpt = ia9_qpt → lv_has ls 9 [(7, .int iv9_7), (6, .int iv9_6), (5, .int iv9_5), (0, .ref x), (1, .int i1), (2, .int i2), (3, .int i3), (4, .int (1 : Int32))] → W p l e ({ frames := 3, cells := 0, slots := 0, locals := 71 }) s m ([.ref x, .int i1, .int i2, .int i3, .int (1 : Int32)] : List Value).toArray below meth c H locs 0 0 (MQ below (va_Qi (fun (r : Int32) (u : List Nat × hx_h) => (∃ (n1 : Int32) (pof1 : Nat → Int32) (pdf1 : Nat → Int32) (psm1 : Nat → Int32) (pkf1 : Nat → Int32) (pst1 : Nat → Int32), u.2.2.1 x 59 = n1 ∧ u.2.2.1 qpo = pof1 ∧ u.2.2.1 qpd = pdf1 ∧ u.2.2.1 qps = psm1 ∧ u.2.2.1 qpk = pkf1 ∧ u.2.2.1 qpt = pst1 ∧ (((pof1, pdf1, psm1, pkf1, pst1, n1.toInt.toNat) : hz_P) = (hz_tk (hz_RP odf szf gdf owf svf (hz_rc A plf) nw0.toInt) (hz_mt agf byf i1.toInt i2.toInt) nw0 ((pof, pdf, psm, pkf, pst, n0.toInt.toNat) : hz_P) i3.toInt c0.toInt.toNat).1)) ∧ hx_T T_tb u.1 u.2 ∧ hx_S T_tb [(10, 59), (10, 67), (10, 68), (10, 69), (10, 70), (10, 71), (93, 0), (94, 0), (95, 0), (96, 0), (97, 0)] L h u.1 u.2) (hx_E T_tb (P_ty dA) (dC, dI) vwCl (hx_A L sz)) (hx_A L sz)) ([.ref x, .int i1, .int i2, .int i3, .int (1 : Int32)] : List Value).toArray s 0 0 (hx_A L sz)) (F0 m 9 ls []) := by
    intro n9
    induction n9 with
    | zero => intro iv9_5 iv9_6 iv9_7 fw9_x_59 ia9_qpo ia9_qpd ia9_qps ia9_qpk ia9_qpt H locs hL1 hl1 bliv9_5 buiv9_5 bliv9_6 buiv9_6 bliv9_7 buiv9_7 blfw9_x_59 bufw9_x_59 vi9_0 vi9_1 vi9_2 ls hn9; exfalso; omega
    | succ n9 ih9 =>
      intro iv9_5 iv9_6 iv9_7 fw9_x_59 ia9_qpo ia9_qpd ia9_qps ia9_qpk ia9_qpt H locs hL1 hl1 bliv9_5 buiv9_5 bliv9_6 buiv9_6 bliv9_7 buiv9_7 blfw9_x_59 bufw9_x_59 vi9_0 vi9_1 vi9_2 ls hn9 hW hT hM ffw9_x_59 nia9_qpo nia9_qpd nia9_qps nia9_qpk nia9_qpt hl
      have HQ9 : hz_RB (hz_RP odf szf gdf owf svf (hz_rc A plf) nw0.toInt) c0.toInt.toNat ((ia9_qpo, ia9_qpd, ia9_qps, ia9_qpk, ia9_qpt, fw9_x_59.toInt.toNat) : hz_P) := hz_tk_RB HR9 HN9 HB9 ?o6 vi9_0
      case o6 => omega
      refine lv_iload hx hb dX10_takes_9 (lv_at hl 0 rfl) ?_
      refine lv_aload_n hx hb dX10_takes_11 rfl (lv_at hl 3 rfl) ?_
      refine hk_geti hx hb hts hC_10 hown hW (gx.S hM) tt_10 36 ?o7 rfl kw_1179 ⟨rfl, rfl, rfl⟩ ((hM.o gx trivial rfl).1.trans f_x_36) dX10_takes_12 ?_
      case o7 => decide
      refine hb_icmp_ge (zx := iv9_7.toInt) (zy := c0.toInt) (tgt := 102) hx hb rfl rfl dX10_takes_15 ?o8 (fun c_1 => ?_) (fun c_1 => ?_)
      case o8 => decide
      · skip
        have hend9 := vi9_0; rw [show iv9_7.toInt.toNat = c0.toInt.toNat by omega] at hend9
        refine lv_iload hx hb dX10_takes_102 (lv_at hl 1 rfl) ?_
        exact hx_reti hx hb hr hlk hW ⟨⟨fw9_x_59, ia9_qpo, ia9_qpd, ia9_qps, ia9_qpk, ia9_qpt, ffw9_x_59, nia9_qpo, nia9_qpd, nia9_qps, nia9_qpk, nia9_qpt, (congrArg Prod.fst hend9).symm⟩, hT, hM⟩ dX10_takes_104
      · skip
        refine lv_iload hx hb dX10_takes_18 (lv_at hl 2 rfl) ?_
        refine hb_if_le (zx := iv9_5.toInt) (tgt := 102) hx hb rfl dX10_takes_20 ?o9 (fun c_2 => ?_) (fun c_2 => ?_)
        case o9 => decide
        · skip
          have hend9 := hz_tk_z vi9_0 ?o10 c0.toInt.toNat ?o11
          case o10 => omega
          case o11 => omega
          refine lv_iload hx hb dX10_takes_102 (lv_at hl 1 rfl) ?_
          exact hx_reti hx hb hr hlk hW ⟨⟨fw9_x_59, ia9_qpo, ia9_qpd, ia9_qps, ia9_qpk, ia9_qpt, ffw9_x_59, nia9_qpo, nia9_qpd, nia9_qps, nia9_qpk, nia9_qpt, (congrArg Prod.fst hend9).symm⟩, hT, hM⟩ dX10_takes_104
        · skip
          refine lv_aload_n hx hb dX10_takes_23 rfl (lv_at hl 3 rfl) ?_
          refine hk_getr hx hb hts hC_10 hown hW (gx.S hM) tt_10 38 ?o12 rfl kw_1181 ⟨rfl, rfl, rfl⟩ ((hM.o gx trivial rfl).2.trans f_x_38) dX10_takes_24 ?_
          case o12 => decide
          refine lv_iload hx hb dX10_takes_27 (lv_at hl 0 rfl) ?_
          refine hx_iald hx hb hW hT (gqag.S hM) tt_73 rfl ⟨?o13, ?o14⟩ dX10_takes_29 (fun x_3 ex_3 lx_3 ux_3 => ?_)
          case o13 => omega
          case o14 => omega
          have ax_3 : x_3 = agf iv9_7.toNatClampNeg := ex_3.trans (congrFun (hx_afS hM gqag rfl af_qag) _)
          refine lv_iload_n hx hb dX10_takes_30 rfl (lv_at hl 4 rfl) ?_
          refine hb_icmp_ne (zx := x_3.toInt) (zy := i1.toInt) (tgt := 96) hx hb rfl rfl dX10_takes_31 ?o15 (fun c_4 => ?_) (fun c_4 => ?_)
          case o15 => decide
          · skip
            obtain ⟨x_5, ex_5⟩ : ∃ y : Int32, y = iv9_7 + Int32.ofInt 1 := ⟨_, rfl⟩
            have rg_6 := i32_r iv9_7
            have zx_5 : x_5.toInt = iv9_7.toInt + (1) := ?o16
            case o16 =>
              rw [ex_5]
              refine i32_add rfl ?o17 ?o18 ?o19
              case o17 => decide
              case o18 => omega
              case o19 => omega
            refine lv_iinc (v := x_5) (lv' := [(7, .int x_5), (6, .int iv9_6), (5, .int iv9_5), (0, .ref x), (1, .int i1), (2, .int i2), (3, .int i3), (4, .int (1 : Int32))]) hx hb dX10_takes_96 hl (k := 0) rfl ex_5.symm ?o20 rfl (fun ls hl => ?_)
            case o20 => decide
            refine lv_goto (tgt := 9) hx hb dX10_takes_99 ?o21 ?_
            case o21 => decide
            refine ih9 iv9_5 iv9_6 x_5 fw9_x_59 ia9_qpo ia9_qpd ia9_qps ia9_qpk ia9_qpt _ _ hL1 hl1 ?o22 ?o23 ?o24 ?o25 ?o26 ?o27 ?o28 ?o29 (hz_tk_n vi9_0 ?o30 (fun z => by have z9 := (hz_mt_t.mp z.2.1).1; rw [show agf iv9_7.toInt.toNat = x_3 from ax_3.symm] at z9; omega) zx_5) ?o31 ?o32 ls ?o33 hW hT hM ffw9_x_59 nia9_qpo nia9_qpd nia9_qps nia9_qpk nia9_qpt (lv_sub hl [0, 1, 2, 3, 4, 5, 6, 7] rfl)
            case o22 => omega
            case o23 => omega
            case o24 => omega
            case o25 => omega
            case o26 => omega
            case o27 => omega
            case o28 => omega
            case o29 => omega
            case o30 => omega
            case o31 => omega
            case o32 => omega
            case o33 => omega
          · skip
            refine lv_aload_n hx hb dX10_takes_34 rfl (lv_at hl 3 rfl) ?_
            refine hk_getr hx hb hts hC_10 hown hW (gx.S hM) tt_10 37 ?o34 rfl kw_1180 ⟨rfl, rfl, rfl⟩ ((hM.o gx trivial rfl).2.trans f_x_37) dX10_takes_35 ?_
            case o34 => decide
            refine lv_iload hx hb dX10_takes_38 (lv_at hl 0 rfl) ?_
            refine hx_iald hx hb hW hT (gqby.S hM) tt_72 rfl ⟨?o35, ?o36⟩ dX10_takes_40 (fun x_7 ex_7 lx_7 ux_7 => ?_)
            case o35 => omega
            case o36 => omega
            have ax_7 : x_7 = byf iv9_7.toNatClampNeg := ex_7.trans (congrFun (hx_afS hM gqby rfl af_qby) _)
            refine lv_iload_n hx hb dX10_takes_41 rfl (lv_at hl 5 rfl) ?_
            refine hb_icmp_ne (zx := x_7.toInt) (zy := i2.toInt) (tgt := 96) hx hb rfl rfl dX10_takes_42 ?o37 (fun c_8 => ?_) (fun c_8 => ?_)
            case o37 => decide
            · skip
              obtain ⟨x_9, ex_9⟩ : ∃ y : Int32, y = iv9_7 + Int32.ofInt 1 := ⟨_, rfl⟩
              have rg_10 := i32_r iv9_7
              have zx_9 : x_9.toInt = iv9_7.toInt + (1) := ?o38
              case o38 =>
                rw [ex_9]
                refine i32_add rfl ?o39 ?o40 ?o41
                case o39 => decide
                case o40 => omega
                case o41 => omega
              refine lv_iinc (v := x_9) (lv' := [(7, .int x_9), (6, .int iv9_6), (5, .int iv9_5), (0, .ref x), (1, .int i1), (2, .int i2), (3, .int i3), (4, .int (1 : Int32))]) hx hb dX10_takes_96 hl (k := 0) rfl ex_9.symm ?o42 rfl (fun ls hl => ?_)
              case o42 => decide
              refine lv_goto (tgt := 9) hx hb dX10_takes_99 ?o43 ?_
              case o43 => decide
              refine ih9 iv9_5 iv9_6 x_9 fw9_x_59 ia9_qpo ia9_qpd ia9_qps ia9_qpk ia9_qpt _ _ hL1 hl1 ?o44 ?o45 ?o46 ?o47 ?o48 ?o49 ?o50 ?o51 (hz_tk_n vi9_0 ?o52 (fun z => by have z9 := (hz_mt_t.mp z.2.1).2; rw [show byf iv9_7.toInt.toNat = x_7 from ax_7.symm] at z9; omega) zx_9) ?o53 ?o54 ls ?o55 hW hT hM ffw9_x_59 nia9_qpo nia9_qpd nia9_qps nia9_qpk nia9_qpt (lv_sub hl [0, 1, 2, 3, 4, 5, 6, 7] rfl)
              case o44 => omega
              case o45 => omega
              case o46 => omega
              case o47 => omega
              case o48 => omega
              case o49 => omega
              case o50 => omega
              case o51 => omega
              case o52 => omega
              case o53 => omega
              case o54 => omega
              case o55 => omega
            · skip
              refine lv_aload_n hx hb dX10_takes_45 rfl (lv_at hl 3 rfl) ?_
              refine lv_iload hx hb dX10_takes_46 (lv_at hl 0 rfl) ?_
              refine hx_goi (hx_runV (As := [.int iv9_7]) (rest := []) ⟨hx, hb, hml, hown, hts⟩ hW (gx.S hM) tt_10 (T := TX10) (N := 98) rfl (t_X10_isOpen_v l dC dI dA hL1 hl1 H.size x iv9_7 hT (gx.S hM) qfo (gqfo.S hM) ((hM.o gx trivial rfl).2.trans f_x_46) qhe (gqhe.S hM) ((hM.o gx trivial rfl).2.trans f_x_47) qju (gqju.S hM) ((hM.o gx trivial rfl).2.trans f_x_51) qod (gqod.S hM) ((hM.o gx trivial rfl).2.trans f_x_48) qsv (gqsv.S hM) ((hM.o gx trivial rfl).2.trans f_x_50) qsz (gqsz.S hM) ((hM.o gx trivial rfl).2.trans f_x_49) qgd (gqgd.S hM) ((hM.o gx trivial rfl).2.trans f_x_56) qow (gqow.S hM) ((hM.o gx trivial rfl).2.trans f_x_55) qwk (gqwk.S hM) ((hM.o gx trivial rfl).2.trans f_x_54) qpl (gqpl.S hM) ((hM.o gx trivial rfl).2.trans f_x_44) qru (gqru.S hM) ((hM.o gx trivial rfl).2.trans f_x_3) qpo (gqpo.S hM) ((hM.o gx trivial rfl).2.trans f_x_60) qpd (gqpd.S hM) ((hM.o gx trivial rfl).2.trans f_x_61) qps (gqps.S hM) ((hM.o gx trivial rfl).2.trans f_x_62) qpk (gqpk.S hM) ((hM.o gx trivial rfl).2.trans f_x_63) qpt (gqpt.S hM) ((hM.o gx trivial rfl).2.trans f_x_64) fof (hx_afS hM gqfo rfl af_qfo) hrf (hx_afS hM gqhe rfl af_qhe) udf (hx_afS hM gqju rfl af_qju) odf (hx_afS hM gqod rfl af_qod) svf (hx_afS hM gqsv rfl af_qsv) szf (hx_afS hM gqsz rfl af_qsz) gdf (hx_afS hM gqgd rfl af_qgd) owf (hx_afS hM gqow rfl af_qow) wkf (hx_afS hM gqwk rfl af_qwk) plf (hx_afS hM gqpl rfl af_qpl) rlf (hx_afS hM gqru rfl af_qru) ia9_qpo nia9_qpo ia9_qpd nia9_qpd ia9_qps nia9_qps ia9_qpk nia9_qpk ia9_qpt nia9_qpt c0 ((hM.o gx trivial rfl).1.trans f_x_36) a0 ((hM.o gx trivial rfl).1.trans f_x_1) nw0 ((hM.o gx trivial rfl).1.trans f_x_0) fw9_x_59 ffw9_x_59 ⟨?o56, ?o57⟩ adf psf prf A hCA hPL) (cwV 1 hts (hx_gV kw_1637 kw_1634 kw_1636 kw_81 kw_103) rfl rfl rfl (by decide +kernel) ⟨Nat.le_of_ble_eq_true rfl, Nat.le_of_ble_eq_true rfl⟩) rfl hl.1 rfl (Nat.le_of_ble_eq_true rfl) dX10_takes_48 ⟨Nat.le_of_ble_eq_true rfl, Nat.le_of_ble_eq_true rfl⟩) hW (fun r_13 L_11 h_12 H locs p_14 hW => ?_)
              case o56 => omega
              case o57 => omega
              obtain ⟨⟨w_16, fw_16, hr_15⟩, hT, hs⟩ := p_14
              replace hT : hx_T T_tb L_11 h_12 := hT
              replace hs : hx_S T_tb [(10, 67), (10, 68), (10, 69), (10, 70), (10, 71)] hL1 hl1 L_11 h_12 := hs
              replace ffw9_x_59 := (hs.o (gx.S hM) trivial rfl).1.trans ffw9_x_59
              replace nia9_qpo : h_12.2.1 qpo = ia9_qpo := (funext fun j => (hs.a (gqpo.S hM) rfl j).1).trans nia9_qpo
              replace nia9_qpd : h_12.2.1 qpd = ia9_qpd := (funext fun j => (hs.a (gqpd.S hM) rfl j).1).trans nia9_qpd
              replace nia9_qps : h_12.2.1 qps = ia9_qps := (funext fun j => (hs.a (gqps.S hM) rfl j).1).trans nia9_qps
              replace nia9_qpk : h_12.2.1 qpk = ia9_qpk := (funext fun j => (hs.a (gqpk.S hM) rfl j).1).trans nia9_qpk
              replace nia9_qpt : h_12.2.1 qpt = ia9_qpt := (funext fun j => (hs.a (gqpt.S hM) rfl j).1).trans nia9_qpt
              replace ex_3 := ex_3.trans (hs.a (gqag.S hM) rfl _).1.symm
              replace ex_7 := ex_7.trans (hs.a (gqby.S hM) rfl _).1.symm
              replace hM := hM.tr (hs.mono ?o58)
              case o58 => decide
              have fw_16 : h_12.2.1 x 68 = w_16 := fw_16
              have bw_16 := hT.gi (gx.S hM) tt_10 (k := 68) rfl
              rw [fw_16] at bw_16
              have bw_16 : 0 ≤ w_16.toInt ∧ w_16.toInt ≤ 610000 := bw_16
              have hro9 : w_16.toInt = (hz_RP odf szf gdf owf svf (hz_rc A plf) nw0.toInt) ((ia9_qpo, ia9_qpd, ia9_qps, ia9_qpk, ia9_qpt, fw9_x_59.toInt.toNat) : hz_P) iv9_7.toInt.toNat := hr_15.2
              have hop9 : (r_13.toInt = 1 ∧ 0 < w_16.toInt) ∨ (r_13.toInt = 0 ∧ ¬ 0 < w_16.toInt) := ?o59
              case o59 =>
                rw [hr_15.2]
                exact hr_15.1
              have hrv9 := HQ9 iv9_7.toInt.toNat (by omega); rw [← hro9] at hrv9
              clear hr_15
              refine hb_if_ne (zx := r_13.toInt) (tgt := 57) hx hb rfl dX10_takes_51 ?o60 (fun c_17 => ?_) (fun c_17 => ?_)
              case o60 => decide
              · skip
                have hmt9 : hz_mt agf byf i1.toInt i2.toInt iv9_7.toInt.toNat = true := hz_mt_t.mpr ⟨(by rw [show agf iv9_7.toInt.toNat = x_3 from ax_3.symm]; omega), (by rw [show byf iv9_7.toInt.toNat = x_7 from ax_7.symm]; omega)⟩
                refine lv_iload hx hb dX10_takes_57 (lv_at hl 2 rfl) ?_
                refine lv_aload_n hx hb dX10_takes_59 rfl (lv_at hl 3 rfl) ?_
                refine hk_geti hx hb hts hC_10 hown hW (gx.S hM) tt_10 68 ?o61 rfl kw_1211 ⟨rfl, rfl, rfl⟩ fw_16 dX10_takes_60 ?_
                case o61 => decide
                refine hx_goi (hx_runS (As := [.int iv9_5, .int w_16]) (rest := []) ⟨hx, hb, hml, hown, hts⟩ hW (t_X10_lesser_3 l dC dI dA L_11 h_12 H.size iv9_5 w_16 hT) (va_cwS 2 hts (hx_gS kw_1705 kw_1703 kw_1704 kw_103) rfl rfl rfl (by decide +kernel) ⟨Nat.le_of_ble_eq_true rfl, Nat.le_of_ble_eq_true rfl⟩) rfl hl.1 rfl (Nat.le_of_ble_eq_true rfl) dX10_takes_63 ⟨Nat.le_of_ble_eq_true rfl, Nat.le_of_ble_eq_true rfl⟩) hW (fun r_20 L_18 h_19 H locs p_21 hW => ?_)
                obtain ⟨hr_22, hT, hs⟩ := p_21
                replace hT : hx_T T_tb L_18 h_19 := hT
                replace hs : hx_S T_tb [] L_11 h_12 L_18 h_19 := hs
                replace ffw9_x_59 := (hs.o (gx.S hM) trivial rfl).1.trans ffw9_x_59
                replace fw_16 := (hs.o (gx.S hM) trivial rfl).1.trans fw_16
                replace nia9_qpo : h_19.2.1 qpo = ia9_qpo := (funext fun j => (hs.a (gqpo.S hM) rfl j).1).trans nia9_qpo
                replace nia9_qpd : h_19.2.1 qpd = ia9_qpd := (funext fun j => (hs.a (gqpd.S hM) rfl j).1).trans nia9_qpd
                replace nia9_qps : h_19.2.1 qps = ia9_qps := (funext fun j => (hs.a (gqps.S hM) rfl j).1).trans nia9_qps
                replace nia9_qpk : h_19.2.1 qpk = ia9_qpk := (funext fun j => (hs.a (gqpk.S hM) rfl j).1).trans nia9_qpk
                replace nia9_qpt : h_19.2.1 qpt = ia9_qpt := (funext fun j => (hs.a (gqpt.S hM) rfl j).1).trans nia9_qpt
                replace ex_3 := ex_3.trans (hs.a (gqag.S hM) rfl _).1.symm
                replace ex_7 := ex_7.trans (hs.a (gqby.S hM) rfl _).1.symm
                replace hM := hM.tr (hs.mono ?o62)
                case o62 => decide
                have hmi9 := hz_mi_2 hr_22; have hmb9 := hz_mi_l (a := iv9_5.toInt) (b := w_16.toInt); have hmc9 := hz_mi_c (a := iv9_5.toInt) (b := w_16.toInt)
                clear hr_22
                refine lv_istore (lv' := [(8, .int r_20), (7, .int iv9_7), (6, .int iv9_6), (5, .int iv9_5), (0, .ref x), (1, .int i1), (2, .int i2), (3, .int i3), (4, .int (1 : Int32))]) hx hb dX10_takes_66 hl ?o63 rfl (fun ls hl => ?_)
                case o63 => decide
                refine lv_iload hx hb dX10_takes_68 (lv_at hl 8 rfl) ?_
                refine hb_if_eq (zx := 1) (tgt := 86) hx hb ?o64 dX10_takes_70 ?o65 (fun c_23 => ?o66) (fun c_23 => ?_)
                case o64 => decide
                case o65 => decide
                case o66 =>
                  exfalso
                  omega
                refine lv_aload_n hx hb dX10_takes_73 rfl (lv_at hl 4 rfl) ?_
                refine lv_iload hx hb dX10_takes_74 (lv_at hl 1 rfl) ?_
                refine lv_aload_n hx hb dX10_takes_76 rfl (lv_at hl 4 rfl) ?_
                refine hk_geti hx hb hts hC_10 hown hW (gx.S hM) tt_10 0 ?o67 rfl kw_1143 ⟨rfl, rfl, rfl⟩ ((hM.o gx trivial rfl).1.trans f_x_0) dX10_takes_77 ?_
                case o67 => decide
                refine lv_iload hx hb dX10_takes_80 (lv_at hl 0 rfl) ?_
                have hrm9 := hz_room1 HR9 HB9 h600 (k := iv9_7.toInt) ?o68 ?o69 vi9_0 ?o70 hmt9 (by rw [← hro9]; omega)
                case o68 => omega
                case o69 => omega
                case o70 => omega
                have hrm8 : ((fw9_x_59.toInt.toNat : Nat) : Int) + 1 ≤ 600 := hrm9
                refine hx_goi (hx_runV (As := [.int iv9_7, .int nw0, .int r_20]) (rest := []) ⟨hx, hb, hml, hown, hts⟩ hW (gx.S hM) tt_10 (T := TX10) (N := 98) rfl (t_X10_pays_v l dC dI dA L_18 h_19 H.size x iv9_7 nw0 r_20 hT (gx.S hM) qpo (gqpo.S hM) ((hM.o gx trivial rfl).2.trans f_x_60) qpd (gqpd.S hM) ((hM.o gx trivial rfl).2.trans f_x_61) qps (gqps.S hM) ((hM.o gx trivial rfl).2.trans f_x_62) qpk (gqpk.S hM) ((hM.o gx trivial rfl).2.trans f_x_63) qpt (gqpt.S hM) ((hM.o gx trivial rfl).2.trans f_x_64) ia9_qpo nia9_qpo ia9_qpd nia9_qpd ia9_qps nia9_qps ia9_qpk nia9_qpk ia9_qpt nia9_qpt nw0 ((hM.o gx trivial rfl).1.trans f_x_0) fw9_x_59 ffw9_x_59 ?o71 ⟨?o72, ?o73⟩) (cwV 3 hts (hx_gV kw_1653 kw_1650 kw_1652 kw_84 kw_103) rfl rfl rfl (by decide +kernel) ⟨Nat.le_of_ble_eq_true rfl, Nat.le_of_ble_eq_true rfl⟩) rfl hl.1 rfl (Nat.le_of_ble_eq_true rfl) dX10_takes_82 ⟨Nat.le_of_ble_eq_true rfl, Nat.le_of_ble_eq_true rfl⟩) hW (fun r_26 L_24 h_25 H locs p_27 hW => ?_)
                case o71 => omega
                case o72 => omega
                case o73 => omega
                obtain ⟨⟨w_29, w_30, w_31, w_32, w_33, w_34, fw_29, fw_30, fw_31, fw_32, fw_33, fw_34, hr_28⟩, hT, hs⟩ := p_27
                replace hT : hx_T T_tb L_24 h_25 := hT
                replace hs : hx_S T_tb [(10, 59), (93, 0), (94, 0), (95, 0), (96, 0), (97, 0)] L_18 h_19 L_24 h_25 := hs
                replace fw_16 := (hs.o (gx.S hM) trivial rfl).1.trans fw_16
                replace ex_3 := ex_3.trans (hs.a (gqag.S hM) rfl _).1.symm
                replace ex_7 := ex_7.trans (hs.a (gqby.S hM) rfl _).1.symm
                replace hM := hM.tr (hs.mono ?o74)
                case o74 => decide
                have fw_29 : h_25.2.1 x 59 = w_29 := fw_29
                have bw_29 := hT.gi (gx.S hM) tt_10 (k := 59) rfl
                rw [fw_29] at bw_29
                have bw_29 : 0 ≤ w_29.toInt ∧ w_29.toInt ≤ 600 := bw_29
                have fw_30 : h_25.2.1 qpo = w_30 := fw_30
                have fw_31 : h_25.2.1 qpd = w_31 := fw_31
                have fw_32 : h_25.2.1 qps = w_32 := fw_32
                have fw_33 : h_25.2.1 qpk = w_33 := fw_33
                have fw_34 : h_25.2.1 qpt = w_34 := fw_34
                have happ9 : ((w_30, w_31, w_32, w_33, w_34, w_29.toInt.toNat) : hz_P) = hz_ap ((ia9_qpo, ia9_qpd, ia9_qps, ia9_qpk, ia9_qpt, fw9_x_59.toInt.toNat) : hz_P) iv9_7 r_20 nw0 := hz_ap_eq hr_28.2.2 (by have h9 := hr_28.2.1; omega)
                refine lv_pop hx hb dX10_takes_85 rfl ?_
                refine lv_iload hx hb dX10_takes_86 (lv_at hl 3 rfl) ?_
                refine lv_iload hx hb dX10_takes_88 (lv_at hl 0 rfl) ?_
                refine lv_isub hx hb dX10_takes_90 ?_
                have rg_35 := i32_r iv9_5
                have rg_36 := i32_r r_20
                refine lv_topi (fun x_37 ex_37 => ?_)
                have zx_37 : x_37.toInt = iv9_5.toInt - r_20.toInt := ?o75
                case o75 =>
                  rw [ex_37]
                  refine i32_sub rfl rfl ?o76 ?o77
                  case o76 => omega
                  case o77 => omega
                refine lv_istore (lv' := [(5, .int x_37), (8, .int r_20), (7, .int iv9_7), (6, .int iv9_6), (0, .ref x), (1, .int i1), (2, .int i2), (3, .int i3), (4, .int (1 : Int32))]) hx hb dX10_takes_91 hl ?o78 rfl (fun ls hl => ?_)
                case o78 => decide
                obtain ⟨x_38, ex_38⟩ : ∃ y : Int32, y = iv9_6 + Int32.ofInt 1 := ⟨_, rfl⟩
                have rg_39 := i32_r iv9_6
                have zx_38 : x_38.toInt = iv9_6.toInt + (1) := ?o79
                case o79 =>
                  rw [ex_38]
                  refine i32_add rfl ?o80 ?o81 ?o82
                  case o80 => decide
                  case o81 => omega
                  case o82 => omega
                refine lv_iinc (v := x_38) (lv' := [(6, .int x_38), (5, .int x_37), (8, .int r_20), (7, .int iv9_7), (0, .ref x), (1, .int i1), (2, .int i2), (3, .int i3), (4, .int (1 : Int32))]) hx hb dX10_takes_93 hl (k := 3) rfl ex_38.symm ?o83 rfl (fun ls hl => ?_)
                case o83 => decide
                obtain ⟨x_40, ex_40⟩ : ∃ y : Int32, y = iv9_7 + Int32.ofInt 1 := ⟨_, rfl⟩
                have rg_41 := i32_r iv9_7
                have zx_40 : x_40.toInt = iv9_7.toInt + (1) := ?o84
                case o84 =>
                  rw [ex_40]
                  refine i32_add rfl ?o85 ?o86 ?o87
                  case o85 => decide
                  case o86 => omega
                  case o87 => omega
                refine lv_iinc (v := x_40) (lv' := [(7, .int x_40), (6, .int x_38), (5, .int x_37), (8, .int r_20), (0, .ref x), (1, .int i1), (2, .int i2), (3, .int i3), (4, .int (1 : Int32))]) hx hb dX10_takes_96 hl (k := 3) rfl ex_40.symm ?o88 rfl (fun ls hl => ?_)
                case o88 => decide
                refine lv_goto (tgt := 9) hx hb dX10_takes_99 ?o89 ?_
                case o89 => decide
                refine ih9 x_37 x_38 x_40 w_29 w_30 w_31 w_32 w_33 w_34 _ _ L_24 h_25 ?o90 ?o91 ?o92 ?o93 ?o94 ?o95 ?o96 ?o97 (hz_tk_y vi9_0 ?o98 ?o99 ?o100 hmt9 (by rw [← hro9]; omega) (by rw [← hro9]; omega) rfl (by rw [← hro9]; exact hmi9) happ9 zx_37 zx_40) ?o101 ?o102 ls ?o103 hW hT hM fw_29 fw_30 fw_31 fw_32 fw_33 fw_34 (lv_sub hl [0, 1, 2, 4, 5, 6, 7, 8] rfl)
                case o90 => omega
                case o91 => omega
                case o92 => omega
                case o93 => omega
                case o94 => omega
                case o95 => omega
                case o96 => omega
                case o97 => omega
                case o98 => omega
                case o99 => omega
                case o100 => omega
                case o101 => omega
                case o102 => omega
                case o103 => omega
              · skip
                refine lv_goto (tgt := 96) hx hb dX10_takes_54 ?o104 ?_
                case o104 => decide
                obtain ⟨x_42, ex_42⟩ : ∃ y : Int32, y = iv9_7 + Int32.ofInt 1 := ⟨_, rfl⟩
                have rg_43 := i32_r iv9_7
                have zx_42 : x_42.toInt = iv9_7.toInt + (1) := ?o105
                case o105 =>
                  rw [ex_42]
                  refine i32_add rfl ?o106 ?o107 ?o108
                  case o106 => decide
                  case o107 => omega
                  case o108 => omega
                refine lv_iinc (v := x_42) (lv' := [(7, .int x_42), (6, .int iv9_6), (5, .int iv9_5), (0, .ref x), (1, .int i1), (2, .int i2), (3, .int i3), (4, .int (1 : Int32))]) hx hb dX10_takes_96 hl (k := 0) rfl ex_42.symm ?o109 rfl (fun ls hl => ?_)
                case o109 => decide
                refine lv_goto (tgt := 9) hx hb dX10_takes_99 ?o110 ?_
                case o110 => decide
                refine ih9 iv9_5 iv9_6 x_42 fw9_x_59 ia9_qpo ia9_qpd ia9_qps ia9_qpk ia9_qpt _ _ L_11 h_12 ?o111 ?o112 ?o113 ?o114 ?o115 ?o116 ?o117 ?o118 (hz_tk_n vi9_0 ?o119 (fun z => by have z9 := z.2.2; rw [← hro9] at z9; omega) zx_42) ?o120 ?o121 ls ?o122 hW hT hM ffw9_x_59 nia9_qpo nia9_qpd nia9_qps nia9_qpk nia9_qpt (lv_sub hl [0, 1, 2, 3, 4, 5, 6, 7] rfl)
                case o111 => omega
                case o112 => omega
                case o113 => omega
                case o114 => omega
                case o115 => omega
                case o116 => omega
                case o117 => omega
                case o118 => omega
                case o119 => omega
                case o120 => omega
                case o121 => omega
                case o122 => omega
  have zk_0 : (0 : Int32).toInt = 0 := ?o123
  case o123 => decide
  have zk_0 : (0 : Int32).toInt = 0 := ?o124
  case o124 => decide
  refine loop9 101 i3 (0 : Int32) (0 : Int32) n0 pof pdf psm pkf pst _ _ L h ?o125 ?o126 ?o127 ?o128 ?o129 ?o130 ?o131 ?o132 (by rw [zk_0]; rfl) ?o133 ?o134 ls ?o135 hW hT hM f_x_59 af_qpo af_qpd af_qps af_qpk af_qpt hl
  case o125 => omega
  case o126 => omega
  case o127 => decide
  case o128 => decide
  case o129 => decide
  case o130 => decide
  case o131 => omega
  case o132 => omega
  case o133 => omega
  case o134 => omega
  case o135 => omega


set_option maxHeartbeats 4000000 in
set_option maxRecDepth 100000 in
theorem t_X10_debts_v (l : Launch) (dC : Nat → ClassId) (dI : Nat → Nat → Nat) (dA : Nat → ClassId) (L : List Nat) (h : hx_h) (sz : Nat) (x : Nat) (hT : hx_T T_tb L h) (gx : hx_g L h x 10) (qfo : Nat) (gqfo : hx_g L h qfo 81) (f_x_46 : h.2.2 x 46 = some qfo) (qhe : Nat) (gqhe : hx_g L h qhe 82) (f_x_47 : h.2.2 x 47 = some qhe) (qju : Nat) (gqju : hx_g L h qju 86) (f_x_51 : h.2.2 x 51 = some qju) (qod : Nat) (gqod : hx_g L h qod 83) (f_x_48 : h.2.2 x 48 = some qod) (qsv : Nat) (gqsv : hx_g L h qsv 85) (f_x_50 : h.2.2 x 50 = some qsv) (qsz : Nat) (gqsz : hx_g L h qsz 84) (f_x_49 : h.2.2 x 49 = some qsz) (qgd : Nat) (gqgd : hx_g L h qgd 91) (f_x_56 : h.2.2 x 56 = some qgd) (qow : Nat) (gqow : hx_g L h qow 90) (f_x_55 : h.2.2 x 55 = some qow) (qwk : Nat) (gqwk : hx_g L h qwk 89) (f_x_54 : h.2.2 x 54 = some qwk) (qpl : Nat) (gqpl : hx_g L h qpl 79) (f_x_44 : h.2.2 x 44 = some qpl) (qru : Nat) (gqru : hx_g L h qru 50) (f_x_3 : h.2.2 x 3 = some qru) (qpo : Nat) (gqpo : hx_g L h qpo 93) (f_x_60 : h.2.2 x 60 = some qpo) (qpd : Nat) (gqpd : hx_g L h qpd 94) (f_x_61 : h.2.2 x 61 = some qpd) (qps : Nat) (gqps : hx_g L h qps 95) (f_x_62 : h.2.2 x 62 = some qps) (qpk : Nat) (gqpk : hx_g L h qpk 96) (f_x_63 : h.2.2 x 63 = some qpk) (qpt : Nat) (gqpt : hx_g L h qpt 97) (f_x_64 : h.2.2 x 64 = some qpt) (qag : Nat) (gqag : hx_g L h qag 73) (f_x_38 : h.2.2 x 38 = some qag) (qby : Nat) (gqby : hx_g L h qby 72) (f_x_37 : h.2.2 x 37 = some qby) (qdb : Nat) (gqdb : hx_g L h qdb 108) (f_x_82 : h.2.2 x 82 = some qdb) (fof : Nat → Int32) (af_qfo : h.2.1 qfo = fof) (hrf : Nat → Int32) (af_qhe : h.2.1 qhe = hrf) (udf : Nat → Int32) (af_qju : h.2.1 qju = udf) (odf : Nat → Int32) (af_qod : h.2.1 qod = odf) (svf : Nat → Int32) (af_qsv : h.2.1 qsv = svf) (szf : Nat → Int32) (af_qsz : h.2.1 qsz = szf) (gdf : Nat → Int32) (af_qgd : h.2.1 qgd = gdf) (owf : Nat → Int32) (af_qow : h.2.1 qow = owf) (wkf : Nat → Int32) (af_qwk : h.2.1 qwk = wkf) (plf : Nat → Int32) (af_qpl : h.2.1 qpl = plf) (rlf : Nat → Int32) (af_qru : h.2.1 qru = rlf) (pof : Nat → Int32) (af_qpo : h.2.1 qpo = pof) (pdf : Nat → Int32) (af_qpd : h.2.1 qpd = pdf) (psm : Nat → Int32) (af_qps : h.2.1 qps = psm) (pkf : Nat → Int32) (af_qpk : h.2.1 qpk = pkf) (pst : Nat → Int32) (af_qpt : h.2.1 qpt = pst) (agf : Nat → Int32) (af_qag : h.2.1 qag = agf) (byf : Nat → Int32) (af_qby : h.2.1 qby = byf) (c0 : Int32) (f_x_36 : h.2.1 x 36 = c0) (a0 : Int32) (f_x_1 : h.2.1 x 1 = a0) (nw0 : Int32) (f_x_0 : h.2.1 x 0 = nw0) (n0 : Int32) (f_x_59 : h.2.1 x 59 = n0) (adf psf prf : Nat → Int32) (A : Nat → hv_act) (hCA : hv_CA adf rlf psf prf a0.toInt A) (hPL : hx_PL plf c0.toInt a0.toInt) (hrb : ∀ c, c < c0.toInt.toNat → 0 ≤ (hz_RP odf szf gdf owf svf (hz_rc A plf) nw0.toInt) ((pof, pdf, psm, pkf, pst, n0.toInt.toNat) : hz_P) c ∧ (hz_RP odf szf gdf owf svf (hz_rc A plf) nw0.toInt) ((pof, pdf, psm, pkf, pst, n0.toInt.toNat) : hz_P) c ≤ 609999) : Met l yX10_debts (Cond.code yX10_debts cX10_debts 2 none :: hx_all) ({ frames := 3, cells := 0, slots := 0, locals := 71 }) (va_Pc [.ref x] (hx_B T_tb (P_ty dA) (dC, dI) vwCl L h sz)) (va_Qv (fun (u : List Nat × hx_h) => (∃ (dbf1 : Nat → Int32), u.2.2.1 qdb = dbf1 ∧ (hz_DW dbf1 ((hz_RP odf szf gdf owf svf (hz_rc A plf) nw0.toInt) ((pof, pdf, psm, pkf, pst, n0.toInt.toNat) : hz_P)) agf byf c0.toInt.toNat)) ∧ hx_T T_tb u.1 u.2 ∧ hx_S T_tb [(10, 67), (10, 68), (10, 69), (10, 70), (10, 71), (108, 0)] L h u.1 u.2) (hx_E T_tb (P_ty dA) (dC, dI) vwCl (hx_A L sz)) (hx_A L sz)) 0 0 (hx_A L sz) := by
  refine hx_met (lv := [(0, .ref x)]) (by decide +kernel) rfl (Nat.le_of_ble_eq_true rfl) rfl ?_
  intro p e s m below meth c hx hb hml hr hlk hts0 hown hin hsz hW ls hl
  have hts : ∀ w ∈ hx_all, w.before _ s = true := fun w hw => hts0 w (List.mem_cons_of_mem _ hw)
  have hown : s.vm.findClass "SmallCourtModel" = some m.cls := hown
  have hM : hx_S T_tb [(10, 67), (10, 68), (10, 69), (10, 70), (10, 71), (108, 0)] L h L h := hx_S.rf
  have b_c0 := hT.gi gx tt_10 (k := 36) rfl
  rw [f_x_36] at b_c0
  have b_c0 : 0 ≤ c0.toInt ∧ c0.toInt ≤ 100 := b_c0
  have b_a0 := hT.gi gx tt_10 (k := 1) rfl
  rw [f_x_1] at b_a0
  have b_a0 : 0 ≤ a0.toInt ∧ a0.toInt ≤ 8 := b_a0
  have b_nw0 := hT.gi gx tt_10 (k := 0) rfl
  rw [f_x_0] at b_nw0
  have b_nw0 : 0 ≤ nw0.toInt ∧ nw0.toInt ≤ 7999 := b_nw0
  have b_n0 := hT.gi gx tt_10 (k := 59) rfl
  rw [f_x_59] at b_n0
  have b_n0 : 0 ≤ n0.toInt ∧ n0.toInt ≤ 600 := b_n0
  refine lv_iconst (v := 0) hx hb dX10_debts_0 ?o0 ?_
  case o0 => decide
  refine lv_istore_n (lv' := [(1, .int (0 : Int32)), (0, .ref x)]) hx hb dX10_debts_1 rfl hl ?o1 rfl (fun ls hl => ?_)
  case o1 => decide
  obtain ⟨fa_1, nfa_1⟩ : ∃ g : Nat → Int32, h.2.1 qdb = g := ⟨_, rfl⟩
  have loop2 : ∀ (n2 : Nat) (iv2_1 : Int32) (ia2_qdb : Nat → Int32) (H : Heap) (locs : List Loc) (hL1 : List Nat) (hl1 : hx_h), 0 ≤ iv2_1.toInt → iv2_1.toInt ≤ 1600 → (∀ j : Nat, (j : Int) < iv2_1.toInt → ia2_qdb j = 0) → ∀ (ls : Array Slot), 1600 - iv2_1.toInt < (n2 : Int) → hx_W T_tb (P_ty dA) (dC, dI) vwCl (hx_A L sz) s.heap hL1 hl1 s H locs → hx_T T_tb hL1 hl1 → hx_S T_tb [(10, 67), (10, 68), (10, 69), (10, 70), (10, 71), (108, 0)] L h hL1 hl1 → hl1.2.1 qdb = ia2_qdb → lv_has ls 2 [(1, .int iv2_1), (0, .ref x)] → W p l e ({ frames := 3, cells := 0, slots := 0, locals := 71 }) s m ([.ref x] : List Value).toArray below meth c H locs 0 0 (MQ below (va_Qv (fun (u : List Nat × hx_h) => (∃ (dbf1 : Nat → Int32), u.2.2.1 qdb = dbf1 ∧ (hz_DW dbf1 ((hz_RP odf szf gdf owf svf (hz_rc A plf) nw0.toInt) ((pof, pdf, psm, pkf, pst, n0.toInt.toNat) : hz_P)) agf byf c0.toInt.toNat)) ∧ hx_T T_tb u.1 u.2 ∧ hx_S T_tb [(10, 67), (10, 68), (10, 69), (10, 70), (10, 71), (108, 0)] L h u.1 u.2) (hx_E T_tb (P_ty dA) (dC, dI) vwCl (hx_A L sz)) (hx_A L sz)) ([.ref x] : List Value).toArray s 0 0 (hx_A L sz)) (F0 m 2 ls []) := by
    intro n2
    induction n2 with
    | zero => intro iv2_1 ia2_qdb H locs hL1 hl1 bliv2_1 buiv2_1 vi2_0 ls hn2; exfalso; omega
    | succ n2 ih2 =>
      intro iv2_1 ia2_qdb H locs hL1 hl1 bliv2_1 buiv2_1 vi2_0 ls hn2 hW hT hM  nia2_qdb hl
      refine lv_iload_n hx hb dX10_debts_2 rfl (lv_at hl 0 rfl) ?_
      refine lv_sipush (v := 1600) hx hb dX10_debts_3 ?o2 ?_
      case o2 => decide
      refine hb_icmp_ge (zx := iv2_1.toInt) (zy := 1600) (tgt := 22) hx hb rfl ?o3 dX10_debts_6 ?o4 (fun c_2 => ?_) (fun c_2 => ?_)
      case o3 => decide
      case o4 => decide
      · skip
        refine lv_iconst (v := 0) hx hb dX10_debts_22 ?o5 ?_
        case o5 => decide
        refine lv_istore_n (lv' := [(1, .int (0 : Int32)), (0, .ref x)]) hx hb dX10_debts_23 rfl hl ?o6 rfl (fun ls hl => ?_)
        case o6 => decide
        have loop24 : ∀ (n24 : Nat) (iv24_1 : Int32) (ia24_qdb : Nat → Int32) (H : Heap) (locs : List Loc) (hL1 : List Nat) (hl1 : hx_h), 0 ≤ iv24_1.toInt → iv24_1.toInt ≤ 100 → (hz_DW ia24_qdb ((hz_RP odf szf gdf owf svf (hz_rc A plf) nw0.toInt) ((pof, pdf, psm, pkf, pst, n0.toInt.toNat) : hz_P)) agf byf (iv24_1.toInt).toNat) → (iv24_1.toInt ≤ c0.toInt) → ∀ (ls : Array Slot), 100 - iv24_1.toInt < (n24 : Int) → hx_W T_tb (P_ty dA) (dC, dI) vwCl (hx_A L sz) s.heap hL1 hl1 s H locs → hx_T T_tb hL1 hl1 → hx_S T_tb [(10, 67), (10, 68), (10, 69), (10, 70), (10, 71), (108, 0)] L h hL1 hl1 → hl1.2.1 qdb = ia24_qdb → lv_has ls 2 [(1, .int iv24_1), (0, .ref x)] → W p l e ({ frames := 3, cells := 0, slots := 0, locals := 71 }) s m ([.ref x] : List Value).toArray below meth c H locs 0 0 (MQ below (va_Qv (fun (u : List Nat × hx_h) => (∃ (dbf1 : Nat → Int32), u.2.2.1 qdb = dbf1 ∧ (hz_DW dbf1 ((hz_RP odf szf gdf owf svf (hz_rc A plf) nw0.toInt) ((pof, pdf, psm, pkf, pst, n0.toInt.toNat) : hz_P)) agf byf c0.toInt.toNat)) ∧ hx_T T_tb u.1 u.2 ∧ hx_S T_tb [(10, 67), (10, 68), (10, 69), (10, 70), (10, 71), (108, 0)] L h u.1 u.2) (hx_E T_tb (P_ty dA) (dC, dI) vwCl (hx_A L sz)) (hx_A L sz)) ([.ref x] : List Value).toArray s 0 0 (hx_A L sz)) (F0 m 24 ls []) := by
          intro n24
          induction n24 with
          | zero => intro iv24_1 ia24_qdb H locs hL1 hl1 bliv24_1 buiv24_1 vi24_0 vi24_1 ls hn24; exfalso; omega
          | succ n24 ih24 =>
            intro iv24_1 ia24_qdb H locs hL1 hl1 bliv24_1 buiv24_1 vi24_0 vi24_1 ls hn24 hW hT hM  nia24_qdb hl
            refine lv_iload_n hx hb dX10_debts_24 rfl (lv_at hl 0 rfl) ?_
            refine lv_aload_n hx hb dX10_debts_25 rfl (lv_at hl 1 rfl) ?_
            refine hk_geti hx hb hts hC_10 hown hW (gx.S hM) tt_10 36 ?o7 rfl kw_1179 ⟨rfl, rfl, rfl⟩ ((hM.o gx trivial rfl).1.trans f_x_36) dX10_debts_26 ?_
            case o7 => decide
            refine hb_icmp_ge (zx := iv24_1.toInt) (zy := c0.toInt) (tgt := 74) hx hb rfl rfl dX10_debts_29 ?o8 (fun c_3 => ?_) (fun c_3 => ?_)
            case o8 => decide
            · skip
              exact hx_retv hx hb hr hlk hW ⟨⟨ia24_qdb, nia24_qdb, (by have h9 := vi24_0; rw [show iv24_1.toInt.toNat = c0.toInt.toNat by omega] at h9; exact h9)⟩, hT, hM⟩ dX10_debts_74
            · skip
              refine lv_aload_n hx hb dX10_debts_32 rfl (lv_at hl 1 rfl) ?_
              refine lv_iload_n hx hb dX10_debts_33 rfl (lv_at hl 0 rfl) ?_
              refine hx_goi (hx_runV (As := [.int iv24_1]) (rest := []) ⟨hx, hb, hml, hown, hts⟩ hW (gx.S hM) tt_10 (T := TX10) (N := 98) rfl (t_X10_isOpen_v l dC dI dA hL1 hl1 H.size x iv24_1 hT (gx.S hM) qfo (gqfo.S hM) ((hM.o gx trivial rfl).2.trans f_x_46) qhe (gqhe.S hM) ((hM.o gx trivial rfl).2.trans f_x_47) qju (gqju.S hM) ((hM.o gx trivial rfl).2.trans f_x_51) qod (gqod.S hM) ((hM.o gx trivial rfl).2.trans f_x_48) qsv (gqsv.S hM) ((hM.o gx trivial rfl).2.trans f_x_50) qsz (gqsz.S hM) ((hM.o gx trivial rfl).2.trans f_x_49) qgd (gqgd.S hM) ((hM.o gx trivial rfl).2.trans f_x_56) qow (gqow.S hM) ((hM.o gx trivial rfl).2.trans f_x_55) qwk (gqwk.S hM) ((hM.o gx trivial rfl).2.trans f_x_54) qpl (gqpl.S hM) ((hM.o gx trivial rfl).2.trans f_x_44) qru (gqru.S hM) ((hM.o gx trivial rfl).2.trans f_x_3) qpo (gqpo.S hM) ((hM.o gx trivial rfl).2.trans f_x_60) qpd (gqpd.S hM) ((hM.o gx trivial rfl).2.trans f_x_61) qps (gqps.S hM) ((hM.o gx trivial rfl).2.trans f_x_62) qpk (gqpk.S hM) ((hM.o gx trivial rfl).2.trans f_x_63) qpt (gqpt.S hM) ((hM.o gx trivial rfl).2.trans f_x_64) fof (hx_afS hM gqfo rfl af_qfo) hrf (hx_afS hM gqhe rfl af_qhe) udf (hx_afS hM gqju rfl af_qju) odf (hx_afS hM gqod rfl af_qod) svf (hx_afS hM gqsv rfl af_qsv) szf (hx_afS hM gqsz rfl af_qsz) gdf (hx_afS hM gqgd rfl af_qgd) owf (hx_afS hM gqow rfl af_qow) wkf (hx_afS hM gqwk rfl af_qwk) plf (hx_afS hM gqpl rfl af_qpl) rlf (hx_afS hM gqru rfl af_qru) pof (hx_afS hM gqpo rfl af_qpo) pdf (hx_afS hM gqpd rfl af_qpd) psm (hx_afS hM gqps rfl af_qps) pkf (hx_afS hM gqpk rfl af_qpk) pst (hx_afS hM gqpt rfl af_qpt) c0 ((hM.o gx trivial rfl).1.trans f_x_36) a0 ((hM.o gx trivial rfl).1.trans f_x_1) nw0 ((hM.o gx trivial rfl).1.trans f_x_0) n0 ((hM.o gx trivial rfl).1.trans f_x_59) ⟨?o9, ?o10⟩ adf psf prf A hCA hPL) (cwV 1 hts (hx_gV kw_1637 kw_1634 kw_1636 kw_81 kw_103) rfl rfl rfl (by decide +kernel) ⟨Nat.le_of_ble_eq_true rfl, Nat.le_of_ble_eq_true rfl⟩) rfl hl.1 rfl (Nat.le_of_ble_eq_true rfl) dX10_debts_34 ⟨Nat.le_of_ble_eq_true rfl, Nat.le_of_ble_eq_true rfl⟩) hW (fun r_6 L_4 h_5 H locs p_7 hW => ?_)
              case o9 => omega
              case o10 => omega
              obtain ⟨⟨w_9, fw_9, hr_8⟩, hT, hs⟩ := p_7
              replace hT : hx_T T_tb L_4 h_5 := hT
              replace hs : hx_S T_tb [(10, 67), (10, 68), (10, 69), (10, 70), (10, 71)] hL1 hl1 L_4 h_5 := hs
              replace nia24_qdb : h_5.2.1 qdb = ia24_qdb := (funext fun j => (hs.a (gqdb.S hM) rfl j).1).trans nia24_qdb
              replace hM := hM.tr (hs.mono ?o11)
              case o11 => decide
              have fw_9 : h_5.2.1 x 68 = w_9 := fw_9
              have bw_9 := hT.gi (gx.S hM) tt_10 (k := 68) rfl
              rw [fw_9] at bw_9
              have bw_9 : 0 ≤ w_9.toInt ∧ w_9.toInt ≤ 610000 := bw_9
              have hro9 : w_9.toInt = (hz_RP odf szf gdf owf svf (hz_rc A plf) nw0.toInt) ((pof, pdf, psm, pkf, pst, n0.toInt.toNat) : hz_P) iv24_1.toInt.toNat := hr_8.2
              have hop9 : (r_6.toInt = 1 ∧ 0 < w_9.toInt) ∨ (r_6.toInt = 0 ∧ ¬ 0 < w_9.toInt) := ?o12
              case o12 =>
                rw [hr_8.2]
                exact hr_8.1
              have hrv9 := hrb iv24_1.toInt.toNat (by omega); rw [← hro9] at hrv9
              clear hr_8
              refine hb_if_eq (zx := r_6.toInt) (tgt := 68) hx hb rfl dX10_debts_37 ?o13 (fun c_10 => ?_) (fun c_10 => ?_)
              case o13 => decide
              · skip
                obtain ⟨x_11, ex_11⟩ : ∃ y : Int32, y = iv24_1 + Int32.ofInt 1 := ⟨_, rfl⟩
                have rg_12 := i32_r iv24_1
                have zx_11 : x_11.toInt = iv24_1.toInt + (1) := ?o14
                case o14 =>
                  rw [ex_11]
                  refine i32_add rfl ?o15 ?o16 ?o17
                  case o15 => decide
                  case o16 => omega
                  case o17 => omega
                refine lv_iinc (v := x_11) (lv' := [(1, .int x_11), (0, .ref x)]) hx hb dX10_debts_68 hl (k := 0) rfl ex_11.symm ?o18 rfl (fun ls hl => ?_)
                case o18 => decide
                refine lv_goto (tgt := 24) hx hb dX10_debts_71 ?o19 ?_
                case o19 => decide
                refine ih24 x_11 ia24_qdb _ _ L_4 h_5 ?o20 ?o21 (hz_DW_n vi24_0 ?o22 (by rw [← hro9]; omega) zx_11) ?o23 ls ?o24 hW hT hM  nia24_qdb (lv_sub hl [0, 1] rfl)
                case o20 => omega
                case o21 => omega
                case o22 => omega
                case o23 => omega
                case o24 => omega
              · skip
                refine lv_aload_n hx hb dX10_debts_40 rfl (lv_at hl 1 rfl) ?_
                refine hk_getr hx hb hts hC_10 hown hW (gx.S hM) tt_10 82 ?o25 rfl kw_1225 ⟨rfl, rfl, rfl⟩ ((hM.o gx trivial rfl).2.trans f_x_82) dX10_debts_41 ?_
                case o25 => decide
                refine lv_bipush (v := 40) hx hb dX10_debts_44 ?o26 ?_
                case o26 => decide
                refine lv_aload_n hx hb dX10_debts_46 rfl (lv_at hl 1 rfl) ?_
                refine hk_getr hx hb hts hC_10 hown hW (gx.S hM) tt_10 38 ?o27 rfl kw_1181 ⟨rfl, rfl, rfl⟩ ((hM.o gx trivial rfl).2.trans f_x_38) dX10_debts_47 ?_
                case o27 => decide
                refine lv_iload_n hx hb dX10_debts_50 rfl (lv_at hl 0 rfl) ?_
                refine hx_iald hx hb hW hT (gqag.S hM) tt_73 rfl ⟨?o28, ?o29⟩ dX10_debts_51 (fun x_13 ex_13 lx_13 ux_13 => ?_)
                case o28 => omega
                case o29 => omega
                have ax_13 : x_13 = agf iv24_1.toNatClampNeg := ex_13.trans (congrFun (hx_afS hM gqag rfl af_qag) _)
                refine lv_imul hx hb dX10_debts_52 ?_
                refine lv_topi (fun x_14 ex_14 => ?_)
                have zx_14 : x_14.toInt = 40 * x_13.toInt := ?o30
                case o30 =>
                  rw [ex_14]
                  refine i32_mul ?o31 rfl rfl ?o32 ?o33
                  case o31 => decide
                  case o32 => omega
                  case o33 => omega
                refine lv_aload_n hx hb dX10_debts_53 rfl (lv_at hl 1 rfl) ?_
                refine hk_getr hx hb hts hC_10 hown hW (gx.S hM) tt_10 37 ?o34 rfl kw_1180 ⟨rfl, rfl, rfl⟩ ((hM.o gx trivial rfl).2.trans f_x_37) dX10_debts_54 ?_
                case o34 => decide
                refine lv_iload_n hx hb dX10_debts_57 rfl (lv_at hl 0 rfl) ?_
                refine hx_iald hx hb hW hT (gqby.S hM) tt_72 rfl ⟨?o35, ?o36⟩ dX10_debts_58 (fun x_15 ex_15 lx_15 ux_15 => ?_)
                case o35 => omega
                case o36 => omega
                have ax_15 : x_15 = byf iv24_1.toNatClampNeg := ex_15.trans (congrFun (hx_afS hM gqby rfl af_qby) _)
                refine lv_iadd hx hb dX10_debts_59 ?_
                have rg_16 := i32_r x_14
                have rg_17 := i32_r x_15
                refine lv_topi (fun x_18 ex_18 => ?_)
                have zx_18 : x_18.toInt = x_14.toInt + x_15.toInt := ?o37
                case o37 =>
                  rw [ex_18]
                  refine i32_add rfl rfl ?o38 ?o39
                  case o38 => omega
                  case o39 => omega
                refine lv_dup2_11 hx hb dX10_debts_60 rfl rfl ?_
                refine hx_iald hx hb hW hT (gqdb.S hM) tt_108 rfl ⟨?o40, ?o41⟩ dX10_debts_61 (fun x_19 ex_19 lx_19 ux_19 => ?_)
                case o40 => omega
                case o41 => omega
                have ax_19 : x_19 = ia24_qdb x_18.toNatClampNeg := ex_19.trans (congrFun nia24_qdb _)
                refine lv_aload_n hx hb dX10_debts_62 rfl (lv_at hl 1 rfl) ?_
                refine hk_geti hx hb hts hC_10 hown hW (gx.S hM) tt_10 68 ?o42 rfl kw_1211 ⟨rfl, rfl, rfl⟩ fw_9 dX10_debts_63 ?_
                case o42 => decide
                refine lv_iadd hx hb dX10_debts_66 ?_
                have rg_20 := i32_r x_19
                have rg_21 := i32_r w_9
                refine lv_topi (fun x_22 ex_22 => ?_)
                have nia24_qdbO := nia24_qdb
                refine hx_iast hx hb hW hT (hx_S.rf (M := [(108, 0)])) (gqdb.S hM) tt_108 rfl ⟨?o43, ?o44⟩ rfl (i32_r _) (List.mem_singleton.mpr rfl) dX10_debts_67 (fun H locs h_23 eh_23 hW hT hs => ?_)
                case o43 => omega
                case o44 => omega
                replace fw_9 := (hs.o (gx.S hM) trivial rfl).1.trans fw_9
                replace ex_13 := ex_13.trans (hs.a (gqag.S hM) rfl _).1.symm
                replace ex_15 := ex_15.trans (hs.a (gqby.S hM) rfl _).1.symm
                replace hM := hM.tr (hs.mono ?o45)
                case o45 => decide
                obtain ⟨fa_24, dfa_24⟩ : ∃ g : Nat → Int32, g = hx_up ia24_qdb x_18.toNatClampNeg x_22 := ⟨_, rfl⟩
                have nfa_24 : h_23.2.1 qdb = fa_24 := ?o46
                case o46 =>
                  rw [eh_23, dfa_24, ← nia24_qdbO]
                  exact hx_pi_fun _ _ _ _
                obtain ⟨x_25, ex_25⟩ : ∃ y : Int32, y = iv24_1 + Int32.ofInt 1 := ⟨_, rfl⟩
                have rg_26 := i32_r iv24_1
                have zx_25 : x_25.toInt = iv24_1.toInt + (1) := ?o47
                case o47 =>
                  rw [ex_25]
                  refine i32_add rfl ?o48 ?o49 ?o50
                  case o48 => decide
                  case o49 => omega
                  case o50 => omega
                refine lv_iinc (v := x_25) (lv' := [(1, .int x_25), (0, .ref x)]) hx hb dX10_debts_68 hl (k := 0) rfl ex_25.symm ?o51 rfl (fun ls hl => ?_)
                case o51 => decide
                refine lv_goto (tgt := 24) hx hb dX10_debts_71 ?o52 ?_
                case o52 => decide
                refine ih24 x_25 fa_24 _ _ L_4 h_23 ?o53 ?o54 (hz_DW_s (ix := x_18.toNatClampNeg) vi24_0 ?o55 ?o56 (fun c hc => hrb c ?o57) hro9 (by rw [show agf iv24_1.toInt.toNat = x_13 from ax_13.symm, show byf iv24_1.toInt.toNat = x_15 from ax_15.symm]; unfold Int32.toNatClampNeg; omega) (by unfold Int32.toNatClampNeg; omega) (by rw [dfa_24, ex_22, ax_19]) zx_25) ?o58 ls ?o59 hW hT hM  nfa_24 (lv_sub hl [0, 1] rfl)
                case o53 => omega
                case o54 => omega
                case o55 => omega
                case o56 => omega
                case o57 => omega
                case o58 => omega
                case o59 => omega
        have zk_0 : (0 : Int32).toInt = 0 := ?o60
        case o60 => decide
        refine loop24 101 (0 : Int32) ia2_qdb _ _ hL1 hl1 ?o61 ?o62 (by rw [zk_0]; exact hz_DW_0 (fun j hj => vi2_0 j (by omega))) ?o63 ls ?o64 hW hT hM  nia2_qdb hl
        case o61 => decide
        case o62 => decide
        case o63 => omega
        case o64 => omega
      · skip
        refine lv_aload_n hx hb dX10_debts_9 rfl (lv_at hl 1 rfl) ?_
        refine hk_getr hx hb hts hC_10 hown hW (gx.S hM) tt_10 82 ?o65 rfl kw_1225 ⟨rfl, rfl, rfl⟩ ((hM.o gx trivial rfl).2.trans f_x_82) dX10_debts_10 ?_
        case o65 => decide
        refine lv_iload_n hx hb dX10_debts_13 rfl (lv_at hl 0 rfl) ?_
        refine lv_iconst (v := 0) hx hb dX10_debts_14 ?o66 ?_
        case o66 => decide
        have nia2_qdbO := nia2_qdb
        refine hx_iast hx hb hW hT (hx_S.rf (M := [(108, 0)])) (gqdb.S hM) tt_108 rfl ⟨?o67, ?o68⟩ rfl ?o69 (List.mem_singleton.mpr rfl) dX10_debts_15 (fun H locs h_27 eh_27 hW hT hs => ?_)
        case o67 => omega
        case o68 => omega
        case o69 => decide
        replace hM := hM.tr (hs.mono ?o70)
        case o70 => decide
        obtain ⟨fa_28, dfa_28⟩ : ∃ g : Nat → Int32, g = hx_up ia2_qdb iv2_1.toNatClampNeg (0 : Int32) := ⟨_, rfl⟩
        have nfa_28 : h_27.2.1 qdb = fa_28 := ?o71
        case o71 =>
          rw [eh_27, dfa_28, ← nia2_qdbO]
          exact hx_pi_fun _ _ _ _
        obtain ⟨x_29, ex_29⟩ : ∃ y : Int32, y = iv2_1 + Int32.ofInt 1 := ⟨_, rfl⟩
        have rg_30 := i32_r iv2_1
        have zx_29 : x_29.toInt = iv2_1.toInt + (1) := ?o72
        case o72 =>
          rw [ex_29]
          refine i32_add rfl ?o73 ?o74 ?o75
          case o73 => decide
          case o74 => omega
          case o75 => omega
        refine lv_iinc (v := x_29) (lv' := [(1, .int x_29), (0, .ref x)]) hx hb dX10_debts_16 hl (k := 0) rfl ex_29.symm ?o76 rfl (fun ls hl => ?_)
        case o76 => decide
        refine lv_goto (tgt := 2) hx hb dX10_debts_19 ?o77 ?_
        case o77 => decide
        refine ih2 x_29 fa_28 _ _ hL1 h_27 ?o78 ?o79 (hy_cl_s vi2_0 ?o80 dfa_28 zx_29) ls ?o81 hW hT hM  nfa_28 (lv_sub hl [0, 1] rfl)
        case o78 => omega
        case o79 => omega
        case o80 => omega
        case o81 => omega
  have zk_0 : (0 : Int32).toInt = 0 := ?o82
  case o82 => decide
  refine loop2 1601 (0 : Int32) fa_1 _ _ L h ?o83 ?o84 (fun j hj => ?o85) ls ?o86 hW hT hM  nfa_1 hl
  case o83 => decide
  case o84 => decide
  case o85 =>
    exfalso
    omega
  case o86 => omega


set_option maxHeartbeats 4000000 in
set_option maxRecDepth 100000 in
theorem t_X10_offers_v (l : Launch) (dC : Nat → ClassId) (dI : Nat → Nat → Nat) (dA : Nat → ClassId) (L : List Nat) (h : hx_h) (sz : Nat) (x : Nat) (i1 : Int32) (i2 : Int32) (hT : hx_T T_tb L h) (gx : hx_g L h x 10) (qdb : Nat) (gqdb : hx_g L h qdb 108) (f_x_82 : h.2.2 x 82 = some qdb) (qrg : Nat) (gqrg : hx_g L h qrg 111) (f_x_89 : h.2.2 x 89 = some qrg) (qbr : Nat) (gqbr : hx_g L h qbr 110) (f_x_88 : h.2.2 x 88 = some qbr) (dbf : Nat → Int32) (af_qdb : h.2.1 qdb = dbf) (rgf : Nat → Int32) (af_qrg : h.2.1 qrg = rgf) (brf : Nat → Int32) (af_qbr : h.2.1 qbr = brf) (bl0 : Int32) (f_x_86 : h.2.1 x 86 = bl0) (bs0 : Int32) (f_x_87 : h.2.1 x 87 = bs0) (hi1 : 2 ≤ i1.toInt ∧ i1.toInt ≤ 4) (hi2 : 0 ≤ i2.toInt) (g : Nat → Int) (hg : ∀ i : Nat, (i : Int) < i1.toInt → (rgf i).toInt = g i) (V : Int → Int) (hV : ∀ x : Nat, x < 1600 → (dbf x).toInt = V (x : Int)) (hVb : ∀ x : Int, 0 ≤ V x ∧ V x ≤ 61000000) (o : Int × Int × (Nat → Int)) (hSR : hz_SR o bl0.toInt bs0.toInt brf) : Met l yX10_offers (Cond.code yX10_offers cX10_offers 6 none :: hx_all) ({ frames := 0, cells := 0, slots := 0, locals := 0 }) (va_Pc [.ref x, .int i1, .int i2] (hx_B T_tb (P_ty dA) (dC, dI) vwCl L h sz)) (va_Qv (fun (u : List Nat × hx_h) => (∃ (bl1 : Int32) (bs1 : Int32) (brf1 : Nat → Int32), u.2.2.1 x 86 = bl1 ∧ u.2.2.1 x 87 = bs1 ∧ u.2.2.1 qbr = brf1 ∧ (hz_SR (hz_of i1.toInt (hz_mi i2.toInt (V (40 * g (i1.toInt - 1).toNat + g 0))) g o) bl1.toInt bs1.toInt brf1)) ∧ hx_T T_tb u.1 u.2 ∧ hx_S T_tb [(10, 86), (10, 87), (110, 0)] L h u.1 u.2) (hx_E T_tb (P_ty dA) (dC, dI) vwCl (hx_A L sz)) (hx_A L sz)) 0 0 (hx_A L sz) := by
  refine hx_met (lv := [(0, .ref x), (1, .int i1), (2, .int i2)]) (by decide +kernel) rfl (Nat.le_of_ble_eq_true rfl) rfl ?_
  intro p e s m below meth c hx hb hml hr hlk hts0 hown hin hsz hW ls hl
  have hts : ∀ w ∈ hx_all, w.before _ s = true := fun w hw => hts0 w (List.mem_cons_of_mem _ hw)
  have hown : s.vm.findClass "SmallCourtModel" = some m.cls := hown
  have hM : hx_S T_tb [(10, 86), (10, 87), (110, 0)] L h L h := hx_S.rf
  have b_bl0 := hT.gi gx tt_10 (k := 86) rfl
  rw [f_x_86] at b_bl0
  have b_bl0 : -2147483648 ≤ bl0.toInt ∧ bl0.toInt ≤ 2147483647 := b_bl0
  have b_bs0 := hT.gi gx tt_10 (k := 87) rfl
  rw [f_x_87] at b_bs0
  have b_bs0 : 0 ≤ bs0.toInt ∧ bs0.toInt ≤ 4 := b_bs0
  refine lv_aload_n hx hb dX10_offers_0 rfl (lv_at hl 0 rfl) ?_
  refine hk_getr hx hb hts hC_10 hown hW (gx.S hM) tt_10 82 ?o0 rfl kw_1225 ⟨rfl, rfl, rfl⟩ ((hM.o gx trivial rfl).2.trans f_x_82) dX10_offers_1 ?_
  case o0 => decide
  refine lv_bipush (v := 40) hx hb dX10_offers_4 ?o1 ?_
  case o1 => decide
  refine lv_aload_n hx hb dX10_offers_6 rfl (lv_at hl 0 rfl) ?_
  refine hk_getr hx hb hts hC_10 hown hW (gx.S hM) tt_10 89 ?o2 rfl kw_1232 ⟨rfl, rfl, rfl⟩ ((hM.o gx trivial rfl).2.trans f_x_89) dX10_offers_7 ?_
  case o2 => decide
  refine lv_iload_n hx hb dX10_offers_10 rfl (lv_at hl 1 rfl) ?_
  refine lv_iconst (v := 1) hx hb dX10_offers_11 ?o3 ?_
  case o3 => decide
  refine lv_isub hx hb dX10_offers_12 ?_
  have rg_1 := i32_r i1
  refine lv_topi (fun x_2 ex_2 => ?_)
  have zx_2 : x_2.toInt = i1.toInt - 1 := ?o4
  case o4 =>
    rw [ex_2]
    refine i32_sub rfl ?o5 ?o6 ?o7
    case o5 => decide
    case o6 => omega
    case o7 => omega
  refine hx_iald hx hb hW hT (gqrg.S hM) tt_111 rfl ⟨?o8, ?o9⟩ dX10_offers_13 (fun x_3 ex_3 lx_3 ux_3 => ?_)
  case o8 => omega
  case o9 => omega
  have ax_3 : x_3 = rgf x_2.toNatClampNeg := ex_3.trans (congrFun (hx_afS hM gqrg rfl af_qrg) _)
  have hg1 : x_3.toInt = g (i1.toInt - 1).toNat := ?o10
  case o10 =>
    have e9 : x_2.toNatClampNeg = (i1.toInt - 1).toNat := (by unfold Int32.toNatClampNeg; omega)
    rw [ax_3, e9]
    refine hg _ ?o11
    case o11 => omega
  refine lv_imul hx hb dX10_offers_14 ?_
  refine lv_topi (fun x_4 ex_4 => ?_)
  have zx_4 : x_4.toInt = 40 * x_3.toInt := ?o12
  case o12 =>
    rw [ex_4]
    refine i32_mul ?o13 rfl rfl ?o14 ?o15
    case o13 => decide
    case o14 => omega
    case o15 => omega
  refine lv_aload_n hx hb dX10_offers_15 rfl (lv_at hl 0 rfl) ?_
  refine hk_getr hx hb hts hC_10 hown hW (gx.S hM) tt_10 89 ?o16 rfl kw_1232 ⟨rfl, rfl, rfl⟩ ((hM.o gx trivial rfl).2.trans f_x_89) dX10_offers_16 ?_
  case o16 => decide
  refine lv_iconst (v := 0) hx hb dX10_offers_19 ?o17 ?_
  case o17 => decide
  refine hx_iald hx hb hW hT (gqrg.S hM) tt_111 rfl ?o18 dX10_offers_20 (fun x_5 ex_5 lx_5 ux_5 => ?_)
  case o18 => decide
  have ax_5 : x_5 = rgf (0 : Int32).toNatClampNeg := ex_5.trans (congrFun (hx_afS hM gqrg rfl af_qrg) _)
  have hg2 : x_5.toInt = g 0 := ?o19
  case o19 =>
    rw [ax_5, show (0 : Int32).toNatClampNeg = 0 from by decide]
    refine hg 0 ?o20
    case o20 => omega
  refine lv_iadd hx hb dX10_offers_21 ?_
  have rg_6 := i32_r x_4
  have rg_7 := i32_r x_5
  refine lv_topi (fun x_8 ex_8 => ?_)
  have zx_8 : x_8.toInt = x_4.toInt + x_5.toInt := ?o21
  case o21 =>
    rw [ex_8]
    refine i32_add rfl rfl ?o22 ?o23
    case o22 => omega
    case o23 => omega
  refine hx_iald hx hb hW hT (gqdb.S hM) tt_108 rfl ⟨?o24, ?o25⟩ dX10_offers_22 (fun x_9 ex_9 lx_9 ux_9 => ?_)
  case o24 => omega
  case o25 => omega
  have ax_9 : x_9 = dbf x_8.toNatClampNeg := ex_9.trans (congrFun (hx_afS hM gqdb rfl af_qdb) _)
  have hv9 : x_9.toInt = V (40 * g (i1.toInt - 1).toNat + g 0) := ?o26
  case o26 =>
    have h9 := hV x_8.toNatClampNeg (by unfold Int32.toNatClampNeg; omega)
    rw [← ax_9, show ((x_8.toNatClampNeg : Nat) : Int) = 40 * g (i1.toInt - 1).toNat + g 0 by unfold Int32.toNatClampNeg; omega] at h9
    exact h9
  have hv9b := hVb (40 * g (i1.toInt - 1).toNat + g 0); rw [← hv9] at hv9b
  refine lv_istore_n (lv' := [(3, .int x_9), (0, .ref x), (1, .int i1), (2, .int i2)]) hx hb dX10_offers_23 rfl hl ?o27 rfl (fun ls hl => ?_)
  case o27 => decide
  refine lv_iload_n hx hb dX10_offers_24 rfl (lv_at hl 0 rfl) ?_
  refine lv_iload_n hx hb dX10_offers_25 rfl (lv_at hl 3 rfl) ?_
  refine hb_icmp_ge (zx := x_9.toInt) (zy := i2.toInt) (tgt := 33) hx hb rfl rfl dX10_offers_26 ?o28 (fun c_10 => ?_) (fun c_10 => ?_)
  case o28 => decide
  · skip
    refine lv_iload_n hx hb dX10_offers_33 rfl (lv_at hl 3 rfl) ?_
    refine lv_istore (lv' := [(4, .int i2), (3, .int x_9), (0, .ref x), (1, .int i1), (2, .int i2)]) hx hb dX10_offers_34 hl ?o29 rfl (fun ls hl => ?_)
    case o29 => decide
    have hmi9 : i2.toInt = hz_mi i2.toInt (V (40 * g (i1.toInt - 1).toNat + g 0)) := by rw [← hv9]; unfold hz_mi; split <;> omega
    have hsb9 := hSR.2.2.1
    refine lv_iload hx hb dX10_offers_36 (lv_at hl 0 rfl) ?_
    refine hb_if_eq (zx := i2.toInt) (tgt := 67) hx hb rfl dX10_offers_38 ?o30 (fun c_11 => ?_) (fun c_11 => ?_)
    case o30 => decide
    · skip
      exact hx_retv hx hb hr hlk hW ⟨⟨bl0, bs0, brf, f_x_86, f_x_87, af_qbr, (by rw [← hmi9]; exact hz_SR_n hSR (by omega))⟩, hT, hM⟩ dX10_offers_67
    · skip
      refine lv_iload hx hb dX10_offers_41 (lv_at hl 0 rfl) ?_
      refine lv_aload_n hx hb dX10_offers_43 rfl (lv_at hl 2 rfl) ?_
      refine hk_geti hx hb hts hC_10 hown hW (gx.S hM) tt_10 86 ?o31 rfl kw_1229 ⟨rfl, rfl, rfl⟩ f_x_86 dX10_offers_44 ?_
      case o31 => decide
      refine hb_icmp_lt (zx := i2.toInt) (zy := bl0.toInt) (tgt := 67) hx hb rfl rfl dX10_offers_47 ?o32 (fun c_12 => ?_) (fun c_12 => ?_)
      case o32 => decide
      · skip
        exact hx_retv hx hb hr hlk hW ⟨⟨bl0, bs0, brf, f_x_86, f_x_87, af_qbr, (by rw [← hmi9]; exact hz_SR_n hSR (by omega))⟩, hT, hM⟩ dX10_offers_67
      · skip
        refine lv_iload hx hb dX10_offers_50 (lv_at hl 0 rfl) ?_
        refine lv_aload_n hx hb dX10_offers_52 rfl (lv_at hl 2 rfl) ?_
        refine hk_geti hx hb hts hC_10 hown hW (gx.S hM) tt_10 86 ?o33 rfl kw_1229 ⟨rfl, rfl, rfl⟩ f_x_86 dX10_offers_53 ?_
        case o33 => decide
        refine hb_icmp_ne (zx := i2.toInt) (zy := bl0.toInt) (tgt := 68) hx hb rfl rfl dX10_offers_56 ?o34 (fun c_13 => ?_) (fun c_13 => ?_)
        case o34 => decide
        · skip
          refine lv_aload_n hx hb dX10_offers_68 rfl (lv_at hl 2 rfl) ?_
          refine lv_iload hx hb dX10_offers_69 (lv_at hl 0 rfl) ?_
          refine hx_puti hx hb hts hC_10 hown hW hT (hx_S.rf (M := [(10, 86)])) (gx.S hM) tt_10 86 ?o35 rfl kw_1229 ⟨rfl, rfl, rfl⟩ rfl (x := i2) (i32_r _) rfl rfl rfl (List.mem_singleton.mpr rfl) dX10_offers_71 (fun H locs h_14 eh_14 hW hT hs => ?_)
          case o35 => decide
          replace f_x_87 := (hs.o (gx.S hM) trivial rfl).1.trans f_x_87
          replace af_qbr : h_14.2.1 qbr = brf := (funext fun j => (hs.a (gqbr.S hM) rfl j).1).trans af_qbr
          replace ex_3 := ex_3.trans (hs.a (gqrg.S hM) rfl _).1.symm
          replace ex_5 := ex_5.trans (hs.a (gqrg.S hM) rfl _).1.symm
          replace ex_9 := ex_9.trans (hs.a (gqdb.S hM) rfl _).1.symm
          replace hM := hM.tr (hs.mono ?o36)
          case o36 => decide
          have f_15 : h_14.2.1 x 86 = i2 := ?o37
          case o37 =>
            rw [eh_14]
            exact hx_pi_at _ _ _ _
          refine lv_aload_n hx hb dX10_offers_74 rfl (lv_at hl 2 rfl) ?_
          refine lv_iload_n hx hb dX10_offers_75 rfl (lv_at hl 3 rfl) ?_
          refine hx_puti hx hb hts hC_10 hown hW hT (hx_S.rf (M := [(10, 87)])) (gx.S hM) tt_10 87 ?o38 rfl kw_1230 ⟨rfl, rfl, rfl⟩ rfl (x := i1) ⟨?o39, ?o40⟩ rfl rfl rfl (List.mem_singleton.mpr rfl) dX10_offers_76 (fun H locs h_16 eh_16 hW hT hs => ?_)
          case o38 => decide
          case o39 => omega
          case o40 => omega
          replace f_15 := (hs.o (gx.S hM) trivial rfl).1.trans f_15
          replace af_qbr : h_16.2.1 qbr = brf := (funext fun j => (hs.a (gqbr.S hM) rfl j).1).trans af_qbr
          replace ex_3 := ex_3.trans (hs.a (gqrg.S hM) rfl _).1.symm
          replace ex_5 := ex_5.trans (hs.a (gqrg.S hM) rfl _).1.symm
          replace ex_9 := ex_9.trans (hs.a (gqdb.S hM) rfl _).1.symm
          replace hM := hM.tr (hs.mono ?o41)
          case o41 => decide
          have f_17 : h_16.2.1 x 87 = i1 := ?o42
          case o42 =>
            rw [eh_16]
            exact hx_pi_at _ _ _ _
          refine lv_iconst (v := 0) hx hb dX10_offers_79 ?o43 ?_
          case o43 => decide
          refine lv_istore (lv' := [(5, .int (0 : Int32)), (4, .int i2), (3, .int x_9), (0, .ref x), (1, .int i1), (2, .int i2)]) hx hb dX10_offers_80 hl ?o44 rfl (fun ls hl => ?_)
          case o44 => decide
          have loop82 : ∀ (n82 : Nat) (iv82_5 : Int32) (ia82_qbr : Nat → Int32) (H : Heap) (locs : List Loc) (hL1 : List Nat) (hl1 : hx_h), 0 ≤ iv82_5.toInt → iv82_5.toInt ≤ 4 → (∀ k : Nat, (k : Int) < iv82_5.toInt → ia82_qbr k = rgf k) → ∀ (ls : Array Slot), 4 - iv82_5.toInt < (n82 : Int) → hx_W T_tb (P_ty dA) (dC, dI) vwCl (hx_A L sz) s.heap hL1 hl1 s H locs → hx_T T_tb hL1 hl1 → hx_S T_tb [(10, 86), (10, 87), (110, 0)] L h hL1 hl1 → hl1.2.1 x 86 = i2 → hl1.2.1 x 87 = i1 → hl1.2.1 qbr = ia82_qbr → lv_has ls 6 [(5, .int iv82_5), (4, .int i2), (3, .int x_9), (0, .ref x), (1, .int i1), (2, .int i2)] → W p l e ({ frames := 0, cells := 0, slots := 0, locals := 0 }) s m ([.ref x, .int i1, .int i2] : List Value).toArray below meth c H locs 0 0 (MQ below (va_Qv (fun (u : List Nat × hx_h) => (∃ (bl1 : Int32) (bs1 : Int32) (brf1 : Nat → Int32), u.2.2.1 x 86 = bl1 ∧ u.2.2.1 x 87 = bs1 ∧ u.2.2.1 qbr = brf1 ∧ (hz_SR (hz_of i1.toInt (hz_mi i2.toInt (V (40 * g (i1.toInt - 1).toNat + g 0))) g o) bl1.toInt bs1.toInt brf1)) ∧ hx_T T_tb u.1 u.2 ∧ hx_S T_tb [(10, 86), (10, 87), (110, 0)] L h u.1 u.2) (hx_E T_tb (P_ty dA) (dC, dI) vwCl (hx_A L sz)) (hx_A L sz)) ([.ref x, .int i1, .int i2] : List Value).toArray s 0 0 (hx_A L sz)) (F0 m 82 ls []) := by
            intro n82
            induction n82 with
            | zero => intro iv82_5 ia82_qbr H locs hL1 hl1 bliv82_5 buiv82_5 vi82_0 ls hn82; exfalso; omega
            | succ n82 ih82 =>
              intro iv82_5 ia82_qbr H locs hL1 hl1 bliv82_5 buiv82_5 vi82_0 ls hn82 hW hT hM f_15 f_17 nia82_qbr hl
              refine lv_iload hx hb dX10_offers_82 (lv_at hl 0 rfl) ?_
              refine lv_iload_n hx hb dX10_offers_84 rfl (lv_at hl 4 rfl) ?_
              refine hb_icmp_ge (zx := iv82_5.toInt) (zy := i1.toInt) (tgt := 108) hx hb rfl rfl dX10_offers_85 ?o45 (fun c_18 => ?_) (fun c_18 => ?_)
              case o45 => decide
              · skip
                exact hx_retv hx hb hr hlk hW ⟨⟨i2, i1, ia82_qbr, f_15, f_17, nia82_qbr, (by rw [← hmi9]; exact hz_SR_y hSR (by omega) rfl rfl ⟨by omega, by omega⟩ (fun i hi => by rw [vi82_0 i (by omega)]; exact hg i hi))⟩, hT, hM⟩ dX10_offers_108
              · skip
                refine lv_aload_n hx hb dX10_offers_88 rfl (lv_at hl 3 rfl) ?_
                refine hk_getr hx hb hts hC_10 hown hW (gx.S hM) tt_10 88 ?o46 rfl kw_1231 ⟨rfl, rfl, rfl⟩ ((hM.o gx trivial rfl).2.trans f_x_88) dX10_offers_89 ?_
                case o46 => decide
                refine lv_iload hx hb dX10_offers_92 (lv_at hl 0 rfl) ?_
                refine lv_aload_n hx hb dX10_offers_94 rfl (lv_at hl 3 rfl) ?_
                refine hk_getr hx hb hts hC_10 hown hW (gx.S hM) tt_10 89 ?o47 rfl kw_1232 ⟨rfl, rfl, rfl⟩ ((hM.o gx trivial rfl).2.trans f_x_89) dX10_offers_95 ?_
                case o47 => decide
                refine lv_iload hx hb dX10_offers_98 (lv_at hl 0 rfl) ?_
                refine hx_iald hx hb hW hT (gqrg.S hM) tt_111 rfl ⟨?o48, ?o49⟩ dX10_offers_100 (fun x_19 ex_19 lx_19 ux_19 => ?_)
                case o48 => omega
                case o49 => omega
                have ax_19 : x_19 = rgf iv82_5.toNatClampNeg := ex_19.trans (congrFun (hx_afS hM gqrg rfl af_qrg) _)
                have nia82_qbrO := nia82_qbr
                refine hx_iast hx hb hW hT (hx_S.rf (M := [(110, 0)])) (gqbr.S hM) tt_110 rfl ⟨?o50, ?o51⟩ rfl ⟨?o52, ?o53⟩ (List.mem_singleton.mpr rfl) dX10_offers_101 (fun H locs h_20 eh_20 hW hT hs => ?_)
                case o50 => omega
                case o51 => omega
                case o52 => omega
                case o53 => omega
                replace f_15 := (hs.o (gx.S hM) trivial rfl).1.trans f_15
                replace f_17 := (hs.o (gx.S hM) trivial rfl).1.trans f_17
                replace ex_19 := ex_19.trans (hs.a (gqrg.S hM) rfl _).1.symm
                replace hM := hM.tr (hs.mono ?o54)
                case o54 => decide
                obtain ⟨fa_21, dfa_21⟩ : ∃ g : Nat → Int32, g = hx_up ia82_qbr iv82_5.toNatClampNeg x_19 := ⟨_, rfl⟩
                have nfa_21 : h_20.2.1 qbr = fa_21 := ?o55
                case o55 =>
                  rw [eh_20, dfa_21, ← nia82_qbrO]
                  exact hx_pi_fun _ _ _ _
                obtain ⟨x_22, ex_22⟩ : ∃ y : Int32, y = iv82_5 + Int32.ofInt 1 := ⟨_, rfl⟩
                have rg_23 := i32_r iv82_5
                have zx_22 : x_22.toInt = iv82_5.toInt + (1) := ?o56
                case o56 =>
                  rw [ex_22]
                  refine i32_add rfl ?o57 ?o58 ?o59
                  case o57 => decide
                  case o58 => omega
                  case o59 => omega
                refine lv_iinc (v := x_22) (lv' := [(5, .int x_22), (4, .int i2), (3, .int x_9), (0, .ref x), (1, .int i1), (2, .int i2)]) hx hb dX10_offers_102 hl (k := 0) rfl ex_22.symm ?o60 rfl (fun ls hl => ?_)
                case o60 => decide
                refine lv_goto (tgt := 82) hx hb dX10_offers_105 ?o61 ?_
                case o61 => decide
                refine ih82 x_22 fa_21 _ _ hL1 h_20 ?o62 ?o63 (hx_cp_s vi82_0 dfa_21 ax_19 rfl ?o64 zx_22) ls ?o65 hW hT hM f_15 f_17 nfa_21 (lv_sub hl [0, 1, 2, 3, 4, 5] rfl)
                case o62 => omega
                case o63 => omega
                case o64 => omega
                case o65 => omega
          have zk_0 : (0 : Int32).toInt = 0 := ?o66
          case o66 => decide
          refine loop82 5 (0 : Int32) brf _ _ L h_16 ?o67 ?o68 (fun k hk => ?o69) ls ?o70 hW hT hM f_15 f_17 af_qbr hl
          case o67 => decide
          case o68 => decide
          case o69 => omega
          case o70 => omega
        · skip
          refine lv_iload_n hx hb dX10_offers_59 rfl (lv_at hl 3 rfl) ?_
          refine lv_aload_n hx hb dX10_offers_60 rfl (lv_at hl 2 rfl) ?_
          refine hk_geti hx hb hts hC_10 hown hW (gx.S hM) tt_10 87 ?o71 rfl kw_1230 ⟨rfl, rfl, rfl⟩ f_x_87 dX10_offers_61 ?_
          case o71 => decide
          refine hb_icmp_lt (zx := i1.toInt) (zy := bs0.toInt) (tgt := 68) hx hb rfl rfl dX10_offers_64 ?o72 (fun c_24 => ?_) (fun c_24 => ?_)
          case o72 => decide
          · skip
            refine lv_aload_n hx hb dX10_offers_68 rfl (lv_at hl 2 rfl) ?_
            refine lv_iload hx hb dX10_offers_69 (lv_at hl 0 rfl) ?_
            refine hx_puti hx hb hts hC_10 hown hW hT (hx_S.rf (M := [(10, 86)])) (gx.S hM) tt_10 86 ?o73 rfl kw_1229 ⟨rfl, rfl, rfl⟩ rfl (x := i2) (i32_r _) rfl rfl rfl (List.mem_singleton.mpr rfl) dX10_offers_71 (fun H locs h_25 eh_25 hW hT hs => ?_)
            case o73 => decide
            replace f_x_87 := (hs.o (gx.S hM) trivial rfl).1.trans f_x_87
            replace af_qbr : h_25.2.1 qbr = brf := (funext fun j => (hs.a (gqbr.S hM) rfl j).1).trans af_qbr
            replace ex_3 := ex_3.trans (hs.a (gqrg.S hM) rfl _).1.symm
            replace ex_5 := ex_5.trans (hs.a (gqrg.S hM) rfl _).1.symm
            replace ex_9 := ex_9.trans (hs.a (gqdb.S hM) rfl _).1.symm
            replace hM := hM.tr (hs.mono ?o74)
            case o74 => decide
            have f_26 : h_25.2.1 x 86 = i2 := ?o75
            case o75 =>
              rw [eh_25]
              exact hx_pi_at _ _ _ _
            refine lv_aload_n hx hb dX10_offers_74 rfl (lv_at hl 2 rfl) ?_
            refine lv_iload_n hx hb dX10_offers_75 rfl (lv_at hl 3 rfl) ?_
            refine hx_puti hx hb hts hC_10 hown hW hT (hx_S.rf (M := [(10, 87)])) (gx.S hM) tt_10 87 ?o76 rfl kw_1230 ⟨rfl, rfl, rfl⟩ rfl (x := i1) ⟨?o77, ?o78⟩ rfl rfl rfl (List.mem_singleton.mpr rfl) dX10_offers_76 (fun H locs h_27 eh_27 hW hT hs => ?_)
            case o76 => decide
            case o77 => omega
            case o78 => omega
            replace f_26 := (hs.o (gx.S hM) trivial rfl).1.trans f_26
            replace af_qbr : h_27.2.1 qbr = brf := (funext fun j => (hs.a (gqbr.S hM) rfl j).1).trans af_qbr
            replace ex_3 := ex_3.trans (hs.a (gqrg.S hM) rfl _).1.symm
            replace ex_5 := ex_5.trans (hs.a (gqrg.S hM) rfl _).1.symm
            replace ex_9 := ex_9.trans (hs.a (gqdb.S hM) rfl _).1.symm
            replace hM := hM.tr (hs.mono ?o79)
            case o79 => decide
            have f_28 : h_27.2.1 x 87 = i1 := ?o80
            case o80 =>
              rw [eh_27]
              exact hx_pi_at _ _ _ _
            refine lv_iconst (v := 0) hx hb dX10_offers_79 ?o81 ?_
            case o81 => decide
            refine lv_istore (lv' := [(5, .int (0 : Int32)), (4, .int i2), (3, .int x_9), (0, .ref x), (1, .int i1), (2, .int i2)]) hx hb dX10_offers_80 hl ?o82 rfl (fun ls hl => ?_)
            case o82 => decide
            have loop82 : ∀ (n82 : Nat) (iv82_5 : Int32) (ia82_qbr : Nat → Int32) (H : Heap) (locs : List Loc) (hL1 : List Nat) (hl1 : hx_h), 0 ≤ iv82_5.toInt → iv82_5.toInt ≤ 4 → (∀ k : Nat, (k : Int) < iv82_5.toInt → ia82_qbr k = rgf k) → ∀ (ls : Array Slot), 4 - iv82_5.toInt < (n82 : Int) → hx_W T_tb (P_ty dA) (dC, dI) vwCl (hx_A L sz) s.heap hL1 hl1 s H locs → hx_T T_tb hL1 hl1 → hx_S T_tb [(10, 86), (10, 87), (110, 0)] L h hL1 hl1 → hl1.2.1 x 86 = i2 → hl1.2.1 x 87 = i1 → hl1.2.1 qbr = ia82_qbr → lv_has ls 6 [(5, .int iv82_5), (4, .int i2), (3, .int x_9), (0, .ref x), (1, .int i1), (2, .int i2)] → W p l e ({ frames := 0, cells := 0, slots := 0, locals := 0 }) s m ([.ref x, .int i1, .int i2] : List Value).toArray below meth c H locs 0 0 (MQ below (va_Qv (fun (u : List Nat × hx_h) => (∃ (bl1 : Int32) (bs1 : Int32) (brf1 : Nat → Int32), u.2.2.1 x 86 = bl1 ∧ u.2.2.1 x 87 = bs1 ∧ u.2.2.1 qbr = brf1 ∧ (hz_SR (hz_of i1.toInt (hz_mi i2.toInt (V (40 * g (i1.toInt - 1).toNat + g 0))) g o) bl1.toInt bs1.toInt brf1)) ∧ hx_T T_tb u.1 u.2 ∧ hx_S T_tb [(10, 86), (10, 87), (110, 0)] L h u.1 u.2) (hx_E T_tb (P_ty dA) (dC, dI) vwCl (hx_A L sz)) (hx_A L sz)) ([.ref x, .int i1, .int i2] : List Value).toArray s 0 0 (hx_A L sz)) (F0 m 82 ls []) := by
              intro n82
              induction n82 with
              | zero => intro iv82_5 ia82_qbr H locs hL1 hl1 bliv82_5 buiv82_5 vi82_0 ls hn82; exfalso; omega
              | succ n82 ih82 =>
                intro iv82_5 ia82_qbr H locs hL1 hl1 bliv82_5 buiv82_5 vi82_0 ls hn82 hW hT hM f_26 f_28 nia82_qbr hl
                refine lv_iload hx hb dX10_offers_82 (lv_at hl 0 rfl) ?_
                refine lv_iload_n hx hb dX10_offers_84 rfl (lv_at hl 4 rfl) ?_
                refine hb_icmp_ge (zx := iv82_5.toInt) (zy := i1.toInt) (tgt := 108) hx hb rfl rfl dX10_offers_85 ?o83 (fun c_29 => ?_) (fun c_29 => ?_)
                case o83 => decide
                · skip
                  exact hx_retv hx hb hr hlk hW ⟨⟨i2, i1, ia82_qbr, f_26, f_28, nia82_qbr, (by rw [← hmi9]; exact hz_SR_y hSR (by omega) rfl rfl ⟨by omega, by omega⟩ (fun i hi => by rw [vi82_0 i (by omega)]; exact hg i hi))⟩, hT, hM⟩ dX10_offers_108
                · skip
                  refine lv_aload_n hx hb dX10_offers_88 rfl (lv_at hl 3 rfl) ?_
                  refine hk_getr hx hb hts hC_10 hown hW (gx.S hM) tt_10 88 ?o84 rfl kw_1231 ⟨rfl, rfl, rfl⟩ ((hM.o gx trivial rfl).2.trans f_x_88) dX10_offers_89 ?_
                  case o84 => decide
                  refine lv_iload hx hb dX10_offers_92 (lv_at hl 0 rfl) ?_
                  refine lv_aload_n hx hb dX10_offers_94 rfl (lv_at hl 3 rfl) ?_
                  refine hk_getr hx hb hts hC_10 hown hW (gx.S hM) tt_10 89 ?o85 rfl kw_1232 ⟨rfl, rfl, rfl⟩ ((hM.o gx trivial rfl).2.trans f_x_89) dX10_offers_95 ?_
                  case o85 => decide
                  refine lv_iload hx hb dX10_offers_98 (lv_at hl 0 rfl) ?_
                  refine hx_iald hx hb hW hT (gqrg.S hM) tt_111 rfl ⟨?o86, ?o87⟩ dX10_offers_100 (fun x_30 ex_30 lx_30 ux_30 => ?_)
                  case o86 => omega
                  case o87 => omega
                  have ax_30 : x_30 = rgf iv82_5.toNatClampNeg := ex_30.trans (congrFun (hx_afS hM gqrg rfl af_qrg) _)
                  have nia82_qbrO := nia82_qbr
                  refine hx_iast hx hb hW hT (hx_S.rf (M := [(110, 0)])) (gqbr.S hM) tt_110 rfl ⟨?o88, ?o89⟩ rfl ⟨?o90, ?o91⟩ (List.mem_singleton.mpr rfl) dX10_offers_101 (fun H locs h_31 eh_31 hW hT hs => ?_)
                  case o88 => omega
                  case o89 => omega
                  case o90 => omega
                  case o91 => omega
                  replace f_26 := (hs.o (gx.S hM) trivial rfl).1.trans f_26
                  replace f_28 := (hs.o (gx.S hM) trivial rfl).1.trans f_28
                  replace ex_30 := ex_30.trans (hs.a (gqrg.S hM) rfl _).1.symm
                  replace hM := hM.tr (hs.mono ?o92)
                  case o92 => decide
                  obtain ⟨fa_32, dfa_32⟩ : ∃ g : Nat → Int32, g = hx_up ia82_qbr iv82_5.toNatClampNeg x_30 := ⟨_, rfl⟩
                  have nfa_32 : h_31.2.1 qbr = fa_32 := ?o93
                  case o93 =>
                    rw [eh_31, dfa_32, ← nia82_qbrO]
                    exact hx_pi_fun _ _ _ _
                  obtain ⟨x_33, ex_33⟩ : ∃ y : Int32, y = iv82_5 + Int32.ofInt 1 := ⟨_, rfl⟩
                  have rg_34 := i32_r iv82_5
                  have zx_33 : x_33.toInt = iv82_5.toInt + (1) := ?o94
                  case o94 =>
                    rw [ex_33]
                    refine i32_add rfl ?o95 ?o96 ?o97
                    case o95 => decide
                    case o96 => omega
                    case o97 => omega
                  refine lv_iinc (v := x_33) (lv' := [(5, .int x_33), (4, .int i2), (3, .int x_9), (0, .ref x), (1, .int i1), (2, .int i2)]) hx hb dX10_offers_102 hl (k := 0) rfl ex_33.symm ?o98 rfl (fun ls hl => ?_)
                  case o98 => decide
                  refine lv_goto (tgt := 82) hx hb dX10_offers_105 ?o99 ?_
                  case o99 => decide
                  refine ih82 x_33 fa_32 _ _ hL1 h_31 ?o100 ?o101 (hx_cp_s vi82_0 dfa_32 ax_30 rfl ?o102 zx_33) ls ?o103 hW hT hM f_26 f_28 nfa_32 (lv_sub hl [0, 1, 2, 3, 4, 5] rfl)
                  case o100 => omega
                  case o101 => omega
                  case o102 => omega
                  case o103 => omega
            have zk_0 : (0 : Int32).toInt = 0 := ?o104
            case o104 => decide
            refine loop82 5 (0 : Int32) brf _ _ L h_27 ?o105 ?o106 (fun k hk => ?o107) ls ?o108 hW hT hM f_26 f_28 af_qbr hl
            case o105 => decide
            case o106 => decide
            case o107 => omega
            case o108 => omega
          · skip
            exact hx_retv hx hb hr hlk hW ⟨⟨bl0, bs0, brf, f_x_86, f_x_87, af_qbr, (by rw [← hmi9]; exact hz_SR_n hSR (by omega))⟩, hT, hM⟩ dX10_offers_67
  · skip
    refine lv_iload_n hx hb dX10_offers_29 rfl (lv_at hl 0 rfl) ?_
    refine lv_goto (tgt := 34) hx hb dX10_offers_30 ?o109 ?_
    case o109 => decide
    refine lv_istore (lv' := [(4, .int x_9), (3, .int x_9), (0, .ref x), (1, .int i1), (2, .int i2)]) hx hb dX10_offers_34 hl ?o110 rfl (fun ls hl => ?_)
    case o110 => decide
    have hmi9 : x_9.toInt = hz_mi i2.toInt (V (40 * g (i1.toInt - 1).toNat + g 0)) := by rw [← hv9]; unfold hz_mi; split <;> omega
    have hsb9 := hSR.2.2.1
    refine lv_iload hx hb dX10_offers_36 (lv_at hl 0 rfl) ?_
    refine hb_if_eq (zx := x_9.toInt) (tgt := 67) hx hb rfl dX10_offers_38 ?o111 (fun c_35 => ?_) (fun c_35 => ?_)
    case o111 => decide
    · skip
      exact hx_retv hx hb hr hlk hW ⟨⟨bl0, bs0, brf, f_x_86, f_x_87, af_qbr, (by rw [← hmi9]; exact hz_SR_n hSR (by omega))⟩, hT, hM⟩ dX10_offers_67
    · skip
      refine lv_iload hx hb dX10_offers_41 (lv_at hl 0 rfl) ?_
      refine lv_aload_n hx hb dX10_offers_43 rfl (lv_at hl 2 rfl) ?_
      refine hk_geti hx hb hts hC_10 hown hW (gx.S hM) tt_10 86 ?o112 rfl kw_1229 ⟨rfl, rfl, rfl⟩ f_x_86 dX10_offers_44 ?_
      case o112 => decide
      refine hb_icmp_lt (zx := x_9.toInt) (zy := bl0.toInt) (tgt := 67) hx hb rfl rfl dX10_offers_47 ?o113 (fun c_36 => ?_) (fun c_36 => ?_)
      case o113 => decide
      · skip
        exact hx_retv hx hb hr hlk hW ⟨⟨bl0, bs0, brf, f_x_86, f_x_87, af_qbr, (by rw [← hmi9]; exact hz_SR_n hSR (by omega))⟩, hT, hM⟩ dX10_offers_67
      · skip
        refine lv_iload hx hb dX10_offers_50 (lv_at hl 0 rfl) ?_
        refine lv_aload_n hx hb dX10_offers_52 rfl (lv_at hl 2 rfl) ?_
        refine hk_geti hx hb hts hC_10 hown hW (gx.S hM) tt_10 86 ?o114 rfl kw_1229 ⟨rfl, rfl, rfl⟩ f_x_86 dX10_offers_53 ?_
        case o114 => decide
        refine hb_icmp_ne (zx := x_9.toInt) (zy := bl0.toInt) (tgt := 68) hx hb rfl rfl dX10_offers_56 ?o115 (fun c_37 => ?_) (fun c_37 => ?_)
        case o115 => decide
        · skip
          refine lv_aload_n hx hb dX10_offers_68 rfl (lv_at hl 2 rfl) ?_
          refine lv_iload hx hb dX10_offers_69 (lv_at hl 0 rfl) ?_
          refine hx_puti hx hb hts hC_10 hown hW hT (hx_S.rf (M := [(10, 86)])) (gx.S hM) tt_10 86 ?o116 rfl kw_1229 ⟨rfl, rfl, rfl⟩ rfl (x := x_9) (i32_r _) rfl rfl rfl (List.mem_singleton.mpr rfl) dX10_offers_71 (fun H locs h_38 eh_38 hW hT hs => ?_)
          case o116 => decide
          replace f_x_87 := (hs.o (gx.S hM) trivial rfl).1.trans f_x_87
          replace af_qbr : h_38.2.1 qbr = brf := (funext fun j => (hs.a (gqbr.S hM) rfl j).1).trans af_qbr
          replace ex_3 := ex_3.trans (hs.a (gqrg.S hM) rfl _).1.symm
          replace ex_5 := ex_5.trans (hs.a (gqrg.S hM) rfl _).1.symm
          replace ex_9 := ex_9.trans (hs.a (gqdb.S hM) rfl _).1.symm
          replace hM := hM.tr (hs.mono ?o117)
          case o117 => decide
          have f_39 : h_38.2.1 x 86 = x_9 := ?o118
          case o118 =>
            rw [eh_38]
            exact hx_pi_at _ _ _ _
          refine lv_aload_n hx hb dX10_offers_74 rfl (lv_at hl 2 rfl) ?_
          refine lv_iload_n hx hb dX10_offers_75 rfl (lv_at hl 3 rfl) ?_
          refine hx_puti hx hb hts hC_10 hown hW hT (hx_S.rf (M := [(10, 87)])) (gx.S hM) tt_10 87 ?o119 rfl kw_1230 ⟨rfl, rfl, rfl⟩ rfl (x := i1) ⟨?o120, ?o121⟩ rfl rfl rfl (List.mem_singleton.mpr rfl) dX10_offers_76 (fun H locs h_40 eh_40 hW hT hs => ?_)
          case o119 => decide
          case o120 => omega
          case o121 => omega
          replace f_39 := (hs.o (gx.S hM) trivial rfl).1.trans f_39
          replace af_qbr : h_40.2.1 qbr = brf := (funext fun j => (hs.a (gqbr.S hM) rfl j).1).trans af_qbr
          replace ex_3 := ex_3.trans (hs.a (gqrg.S hM) rfl _).1.symm
          replace ex_5 := ex_5.trans (hs.a (gqrg.S hM) rfl _).1.symm
          replace ex_9 := ex_9.trans (hs.a (gqdb.S hM) rfl _).1.symm
          replace hM := hM.tr (hs.mono ?o122)
          case o122 => decide
          have f_41 : h_40.2.1 x 87 = i1 := ?o123
          case o123 =>
            rw [eh_40]
            exact hx_pi_at _ _ _ _
          refine lv_iconst (v := 0) hx hb dX10_offers_79 ?o124 ?_
          case o124 => decide
          refine lv_istore (lv' := [(5, .int (0 : Int32)), (4, .int x_9), (3, .int x_9), (0, .ref x), (1, .int i1), (2, .int i2)]) hx hb dX10_offers_80 hl ?o125 rfl (fun ls hl => ?_)
          case o125 => decide
          have loop82 : ∀ (n82 : Nat) (iv82_5 : Int32) (ia82_qbr : Nat → Int32) (H : Heap) (locs : List Loc) (hL1 : List Nat) (hl1 : hx_h), 0 ≤ iv82_5.toInt → iv82_5.toInt ≤ 4 → (∀ k : Nat, (k : Int) < iv82_5.toInt → ia82_qbr k = rgf k) → ∀ (ls : Array Slot), 4 - iv82_5.toInt < (n82 : Int) → hx_W T_tb (P_ty dA) (dC, dI) vwCl (hx_A L sz) s.heap hL1 hl1 s H locs → hx_T T_tb hL1 hl1 → hx_S T_tb [(10, 86), (10, 87), (110, 0)] L h hL1 hl1 → hl1.2.1 x 86 = x_9 → hl1.2.1 x 87 = i1 → hl1.2.1 qbr = ia82_qbr → lv_has ls 6 [(5, .int iv82_5), (4, .int x_9), (3, .int x_9), (0, .ref x), (1, .int i1), (2, .int i2)] → W p l e ({ frames := 0, cells := 0, slots := 0, locals := 0 }) s m ([.ref x, .int i1, .int i2] : List Value).toArray below meth c H locs 0 0 (MQ below (va_Qv (fun (u : List Nat × hx_h) => (∃ (bl1 : Int32) (bs1 : Int32) (brf1 : Nat → Int32), u.2.2.1 x 86 = bl1 ∧ u.2.2.1 x 87 = bs1 ∧ u.2.2.1 qbr = brf1 ∧ (hz_SR (hz_of i1.toInt (hz_mi i2.toInt (V (40 * g (i1.toInt - 1).toNat + g 0))) g o) bl1.toInt bs1.toInt brf1)) ∧ hx_T T_tb u.1 u.2 ∧ hx_S T_tb [(10, 86), (10, 87), (110, 0)] L h u.1 u.2) (hx_E T_tb (P_ty dA) (dC, dI) vwCl (hx_A L sz)) (hx_A L sz)) ([.ref x, .int i1, .int i2] : List Value).toArray s 0 0 (hx_A L sz)) (F0 m 82 ls []) := by
            intro n82
            induction n82 with
            | zero => intro iv82_5 ia82_qbr H locs hL1 hl1 bliv82_5 buiv82_5 vi82_0 ls hn82; exfalso; omega
            | succ n82 ih82 =>
              intro iv82_5 ia82_qbr H locs hL1 hl1 bliv82_5 buiv82_5 vi82_0 ls hn82 hW hT hM f_39 f_41 nia82_qbr hl
              refine lv_iload hx hb dX10_offers_82 (lv_at hl 0 rfl) ?_
              refine lv_iload_n hx hb dX10_offers_84 rfl (lv_at hl 4 rfl) ?_
              refine hb_icmp_ge (zx := iv82_5.toInt) (zy := i1.toInt) (tgt := 108) hx hb rfl rfl dX10_offers_85 ?o126 (fun c_42 => ?_) (fun c_42 => ?_)
              case o126 => decide
              · skip
                exact hx_retv hx hb hr hlk hW ⟨⟨x_9, i1, ia82_qbr, f_39, f_41, nia82_qbr, (by rw [← hmi9]; exact hz_SR_y hSR (by omega) rfl rfl ⟨by omega, by omega⟩ (fun i hi => by rw [vi82_0 i (by omega)]; exact hg i hi))⟩, hT, hM⟩ dX10_offers_108
              · skip
                refine lv_aload_n hx hb dX10_offers_88 rfl (lv_at hl 3 rfl) ?_
                refine hk_getr hx hb hts hC_10 hown hW (gx.S hM) tt_10 88 ?o127 rfl kw_1231 ⟨rfl, rfl, rfl⟩ ((hM.o gx trivial rfl).2.trans f_x_88) dX10_offers_89 ?_
                case o127 => decide
                refine lv_iload hx hb dX10_offers_92 (lv_at hl 0 rfl) ?_
                refine lv_aload_n hx hb dX10_offers_94 rfl (lv_at hl 3 rfl) ?_
                refine hk_getr hx hb hts hC_10 hown hW (gx.S hM) tt_10 89 ?o128 rfl kw_1232 ⟨rfl, rfl, rfl⟩ ((hM.o gx trivial rfl).2.trans f_x_89) dX10_offers_95 ?_
                case o128 => decide
                refine lv_iload hx hb dX10_offers_98 (lv_at hl 0 rfl) ?_
                refine hx_iald hx hb hW hT (gqrg.S hM) tt_111 rfl ⟨?o129, ?o130⟩ dX10_offers_100 (fun x_43 ex_43 lx_43 ux_43 => ?_)
                case o129 => omega
                case o130 => omega
                have ax_43 : x_43 = rgf iv82_5.toNatClampNeg := ex_43.trans (congrFun (hx_afS hM gqrg rfl af_qrg) _)
                have nia82_qbrO := nia82_qbr
                refine hx_iast hx hb hW hT (hx_S.rf (M := [(110, 0)])) (gqbr.S hM) tt_110 rfl ⟨?o131, ?o132⟩ rfl ⟨?o133, ?o134⟩ (List.mem_singleton.mpr rfl) dX10_offers_101 (fun H locs h_44 eh_44 hW hT hs => ?_)
                case o131 => omega
                case o132 => omega
                case o133 => omega
                case o134 => omega
                replace f_39 := (hs.o (gx.S hM) trivial rfl).1.trans f_39
                replace f_41 := (hs.o (gx.S hM) trivial rfl).1.trans f_41
                replace ex_43 := ex_43.trans (hs.a (gqrg.S hM) rfl _).1.symm
                replace hM := hM.tr (hs.mono ?o135)
                case o135 => decide
                obtain ⟨fa_45, dfa_45⟩ : ∃ g : Nat → Int32, g = hx_up ia82_qbr iv82_5.toNatClampNeg x_43 := ⟨_, rfl⟩
                have nfa_45 : h_44.2.1 qbr = fa_45 := ?o136
                case o136 =>
                  rw [eh_44, dfa_45, ← nia82_qbrO]
                  exact hx_pi_fun _ _ _ _
                obtain ⟨x_46, ex_46⟩ : ∃ y : Int32, y = iv82_5 + Int32.ofInt 1 := ⟨_, rfl⟩
                have rg_47 := i32_r iv82_5
                have zx_46 : x_46.toInt = iv82_5.toInt + (1) := ?o137
                case o137 =>
                  rw [ex_46]
                  refine i32_add rfl ?o138 ?o139 ?o140
                  case o138 => decide
                  case o139 => omega
                  case o140 => omega
                refine lv_iinc (v := x_46) (lv' := [(5, .int x_46), (4, .int x_9), (3, .int x_9), (0, .ref x), (1, .int i1), (2, .int i2)]) hx hb dX10_offers_102 hl (k := 0) rfl ex_46.symm ?o141 rfl (fun ls hl => ?_)
                case o141 => decide
                refine lv_goto (tgt := 82) hx hb dX10_offers_105 ?o142 ?_
                case o142 => decide
                refine ih82 x_46 fa_45 _ _ hL1 h_44 ?o143 ?o144 (hx_cp_s vi82_0 dfa_45 ax_43 rfl ?o145 zx_46) ls ?o146 hW hT hM f_39 f_41 nfa_45 (lv_sub hl [0, 1, 2, 3, 4, 5] rfl)
                case o143 => omega
                case o144 => omega
                case o145 => omega
                case o146 => omega
          have zk_0 : (0 : Int32).toInt = 0 := ?o147
          case o147 => decide
          refine loop82 5 (0 : Int32) brf _ _ L h_40 ?o148 ?o149 (fun k hk => ?o150) ls ?o151 hW hT hM f_39 f_41 af_qbr hl
          case o148 => decide
          case o149 => decide
          case o150 => omega
          case o151 => omega
        · skip
          refine lv_iload_n hx hb dX10_offers_59 rfl (lv_at hl 3 rfl) ?_
          refine lv_aload_n hx hb dX10_offers_60 rfl (lv_at hl 2 rfl) ?_
          refine hk_geti hx hb hts hC_10 hown hW (gx.S hM) tt_10 87 ?o152 rfl kw_1230 ⟨rfl, rfl, rfl⟩ f_x_87 dX10_offers_61 ?_
          case o152 => decide
          refine hb_icmp_lt (zx := i1.toInt) (zy := bs0.toInt) (tgt := 68) hx hb rfl rfl dX10_offers_64 ?o153 (fun c_48 => ?_) (fun c_48 => ?_)
          case o153 => decide
          · skip
            refine lv_aload_n hx hb dX10_offers_68 rfl (lv_at hl 2 rfl) ?_
            refine lv_iload hx hb dX10_offers_69 (lv_at hl 0 rfl) ?_
            refine hx_puti hx hb hts hC_10 hown hW hT (hx_S.rf (M := [(10, 86)])) (gx.S hM) tt_10 86 ?o154 rfl kw_1229 ⟨rfl, rfl, rfl⟩ rfl (x := x_9) (i32_r _) rfl rfl rfl (List.mem_singleton.mpr rfl) dX10_offers_71 (fun H locs h_49 eh_49 hW hT hs => ?_)
            case o154 => decide
            replace f_x_87 := (hs.o (gx.S hM) trivial rfl).1.trans f_x_87
            replace af_qbr : h_49.2.1 qbr = brf := (funext fun j => (hs.a (gqbr.S hM) rfl j).1).trans af_qbr
            replace ex_3 := ex_3.trans (hs.a (gqrg.S hM) rfl _).1.symm
            replace ex_5 := ex_5.trans (hs.a (gqrg.S hM) rfl _).1.symm
            replace ex_9 := ex_9.trans (hs.a (gqdb.S hM) rfl _).1.symm
            replace hM := hM.tr (hs.mono ?o155)
            case o155 => decide
            have f_50 : h_49.2.1 x 86 = x_9 := ?o156
            case o156 =>
              rw [eh_49]
              exact hx_pi_at _ _ _ _
            refine lv_aload_n hx hb dX10_offers_74 rfl (lv_at hl 2 rfl) ?_
            refine lv_iload_n hx hb dX10_offers_75 rfl (lv_at hl 3 rfl) ?_
            refine hx_puti hx hb hts hC_10 hown hW hT (hx_S.rf (M := [(10, 87)])) (gx.S hM) tt_10 87 ?o157 rfl kw_1230 ⟨rfl, rfl, rfl⟩ rfl (x := i1) ⟨?o158, ?o159⟩ rfl rfl rfl (List.mem_singleton.mpr rfl) dX10_offers_76 (fun H locs h_51 eh_51 hW hT hs => ?_)
            case o157 => decide
            case o158 => omega
            case o159 => omega
            replace f_50 := (hs.o (gx.S hM) trivial rfl).1.trans f_50
            replace af_qbr : h_51.2.1 qbr = brf := (funext fun j => (hs.a (gqbr.S hM) rfl j).1).trans af_qbr
            replace ex_3 := ex_3.trans (hs.a (gqrg.S hM) rfl _).1.symm
            replace ex_5 := ex_5.trans (hs.a (gqrg.S hM) rfl _).1.symm
            replace ex_9 := ex_9.trans (hs.a (gqdb.S hM) rfl _).1.symm
            replace hM := hM.tr (hs.mono ?o160)
            case o160 => decide
            have f_52 : h_51.2.1 x 87 = i1 := ?o161
            case o161 =>
              rw [eh_51]
              exact hx_pi_at _ _ _ _
            refine lv_iconst (v := 0) hx hb dX10_offers_79 ?o162 ?_
            case o162 => decide
            refine lv_istore (lv' := [(5, .int (0 : Int32)), (4, .int x_9), (3, .int x_9), (0, .ref x), (1, .int i1), (2, .int i2)]) hx hb dX10_offers_80 hl ?o163 rfl (fun ls hl => ?_)
            case o163 => decide
            have loop82 : ∀ (n82 : Nat) (iv82_5 : Int32) (ia82_qbr : Nat → Int32) (H : Heap) (locs : List Loc) (hL1 : List Nat) (hl1 : hx_h), 0 ≤ iv82_5.toInt → iv82_5.toInt ≤ 4 → (∀ k : Nat, (k : Int) < iv82_5.toInt → ia82_qbr k = rgf k) → ∀ (ls : Array Slot), 4 - iv82_5.toInt < (n82 : Int) → hx_W T_tb (P_ty dA) (dC, dI) vwCl (hx_A L sz) s.heap hL1 hl1 s H locs → hx_T T_tb hL1 hl1 → hx_S T_tb [(10, 86), (10, 87), (110, 0)] L h hL1 hl1 → hl1.2.1 x 86 = x_9 → hl1.2.1 x 87 = i1 → hl1.2.1 qbr = ia82_qbr → lv_has ls 6 [(5, .int iv82_5), (4, .int x_9), (3, .int x_9), (0, .ref x), (1, .int i1), (2, .int i2)] → W p l e ({ frames := 0, cells := 0, slots := 0, locals := 0 }) s m ([.ref x, .int i1, .int i2] : List Value).toArray below meth c H locs 0 0 (MQ below (va_Qv (fun (u : List Nat × hx_h) => (∃ (bl1 : Int32) (bs1 : Int32) (brf1 : Nat → Int32), u.2.2.1 x 86 = bl1 ∧ u.2.2.1 x 87 = bs1 ∧ u.2.2.1 qbr = brf1 ∧ (hz_SR (hz_of i1.toInt (hz_mi i2.toInt (V (40 * g (i1.toInt - 1).toNat + g 0))) g o) bl1.toInt bs1.toInt brf1)) ∧ hx_T T_tb u.1 u.2 ∧ hx_S T_tb [(10, 86), (10, 87), (110, 0)] L h u.1 u.2) (hx_E T_tb (P_ty dA) (dC, dI) vwCl (hx_A L sz)) (hx_A L sz)) ([.ref x, .int i1, .int i2] : List Value).toArray s 0 0 (hx_A L sz)) (F0 m 82 ls []) := by
              intro n82
              induction n82 with
              | zero => intro iv82_5 ia82_qbr H locs hL1 hl1 bliv82_5 buiv82_5 vi82_0 ls hn82; exfalso; omega
              | succ n82 ih82 =>
                intro iv82_5 ia82_qbr H locs hL1 hl1 bliv82_5 buiv82_5 vi82_0 ls hn82 hW hT hM f_50 f_52 nia82_qbr hl
                refine lv_iload hx hb dX10_offers_82 (lv_at hl 0 rfl) ?_
                refine lv_iload_n hx hb dX10_offers_84 rfl (lv_at hl 4 rfl) ?_
                refine hb_icmp_ge (zx := iv82_5.toInt) (zy := i1.toInt) (tgt := 108) hx hb rfl rfl dX10_offers_85 ?o164 (fun c_53 => ?_) (fun c_53 => ?_)
                case o164 => decide
                · skip
                  exact hx_retv hx hb hr hlk hW ⟨⟨x_9, i1, ia82_qbr, f_50, f_52, nia82_qbr, (by rw [← hmi9]; exact hz_SR_y hSR (by omega) rfl rfl ⟨by omega, by omega⟩ (fun i hi => by rw [vi82_0 i (by omega)]; exact hg i hi))⟩, hT, hM⟩ dX10_offers_108
                · skip
                  refine lv_aload_n hx hb dX10_offers_88 rfl (lv_at hl 3 rfl) ?_
                  refine hk_getr hx hb hts hC_10 hown hW (gx.S hM) tt_10 88 ?o165 rfl kw_1231 ⟨rfl, rfl, rfl⟩ ((hM.o gx trivial rfl).2.trans f_x_88) dX10_offers_89 ?_
                  case o165 => decide
                  refine lv_iload hx hb dX10_offers_92 (lv_at hl 0 rfl) ?_
                  refine lv_aload_n hx hb dX10_offers_94 rfl (lv_at hl 3 rfl) ?_
                  refine hk_getr hx hb hts hC_10 hown hW (gx.S hM) tt_10 89 ?o166 rfl kw_1232 ⟨rfl, rfl, rfl⟩ ((hM.o gx trivial rfl).2.trans f_x_89) dX10_offers_95 ?_
                  case o166 => decide
                  refine lv_iload hx hb dX10_offers_98 (lv_at hl 0 rfl) ?_
                  refine hx_iald hx hb hW hT (gqrg.S hM) tt_111 rfl ⟨?o167, ?o168⟩ dX10_offers_100 (fun x_54 ex_54 lx_54 ux_54 => ?_)
                  case o167 => omega
                  case o168 => omega
                  have ax_54 : x_54 = rgf iv82_5.toNatClampNeg := ex_54.trans (congrFun (hx_afS hM gqrg rfl af_qrg) _)
                  have nia82_qbrO := nia82_qbr
                  refine hx_iast hx hb hW hT (hx_S.rf (M := [(110, 0)])) (gqbr.S hM) tt_110 rfl ⟨?o169, ?o170⟩ rfl ⟨?o171, ?o172⟩ (List.mem_singleton.mpr rfl) dX10_offers_101 (fun H locs h_55 eh_55 hW hT hs => ?_)
                  case o169 => omega
                  case o170 => omega
                  case o171 => omega
                  case o172 => omega
                  replace f_50 := (hs.o (gx.S hM) trivial rfl).1.trans f_50
                  replace f_52 := (hs.o (gx.S hM) trivial rfl).1.trans f_52
                  replace ex_54 := ex_54.trans (hs.a (gqrg.S hM) rfl _).1.symm
                  replace hM := hM.tr (hs.mono ?o173)
                  case o173 => decide
                  obtain ⟨fa_56, dfa_56⟩ : ∃ g : Nat → Int32, g = hx_up ia82_qbr iv82_5.toNatClampNeg x_54 := ⟨_, rfl⟩
                  have nfa_56 : h_55.2.1 qbr = fa_56 := ?o174
                  case o174 =>
                    rw [eh_55, dfa_56, ← nia82_qbrO]
                    exact hx_pi_fun _ _ _ _
                  obtain ⟨x_57, ex_57⟩ : ∃ y : Int32, y = iv82_5 + Int32.ofInt 1 := ⟨_, rfl⟩
                  have rg_58 := i32_r iv82_5
                  have zx_57 : x_57.toInt = iv82_5.toInt + (1) := ?o175
                  case o175 =>
                    rw [ex_57]
                    refine i32_add rfl ?o176 ?o177 ?o178
                    case o176 => decide
                    case o177 => omega
                    case o178 => omega
                  refine lv_iinc (v := x_57) (lv' := [(5, .int x_57), (4, .int x_9), (3, .int x_9), (0, .ref x), (1, .int i1), (2, .int i2)]) hx hb dX10_offers_102 hl (k := 0) rfl ex_57.symm ?o179 rfl (fun ls hl => ?_)
                  case o179 => decide
                  refine lv_goto (tgt := 82) hx hb dX10_offers_105 ?o180 ?_
                  case o180 => decide
                  refine ih82 x_57 fa_56 _ _ hL1 h_55 ?o181 ?o182 (hx_cp_s vi82_0 dfa_56 ax_54 rfl ?o183 zx_57) ls ?o184 hW hT hM f_50 f_52 nfa_56 (lv_sub hl [0, 1, 2, 3, 4, 5] rfl)
                  case o181 => omega
                  case o182 => omega
                  case o183 => omega
                  case o184 => omega
            have zk_0 : (0 : Int32).toInt = 0 := ?o185
            case o185 => decide
            refine loop82 5 (0 : Int32) brf _ _ L h_51 ?o186 ?o187 (fun k hk => ?o188) ls ?o189 hW hT hM f_50 f_52 af_qbr hl
            case o186 => decide
            case o187 => decide
            case o188 => omega
            case o189 => omega
          · skip
            exact hx_retv hx hb hr hlk hW ⟨⟨bl0, bs0, brf, f_x_86, f_x_87, af_qbr, (by rw [← hmi9]; exact hz_SR_n hSR (by omega))⟩, hT, hM⟩ dX10_offers_67
end
