section
/-! A CELL MADE HERE, OF ANOTHER TAG: every list that holds the old one holds the new one -/
def hx_n2f (t0 t : Nat) (f : hx_f) : Bool := match f with
  | Sum.inr (Sum.inl b) => !b.2.contains t0 || b.2.contains t
  | _ => true
def hx_n2 (t0 t : Nat) (d : hx_d) : Bool := match d with
  | .inl (_, fs) => fs.all (hx_n2f t0 t)
  | .inr (_, _, f) => hx_n2f t0 t f
theorem hx_rt_key {tb : List hx_d} {L : List Nat} {h : hx_h} {q t0 t : Nat} (g : hx_g L h q t0) (hno : tb.all (hx_n2 t0 t) = true) : ∀ (f : hx_f) (d : hx_d), d ∈ tb → (match d with | .inl (_, fs) => f ∈ fs | .inr (_, _, f0) => f = f0) → ∀ q1 b, f = .inr b → q1 ∈ L → h.1 q1 ∈ b.2 → q1 ∈ L ∧ (hx_rt h q t).1 q1 ∈ b.2 := by
  intro f d hdm hfm q1 b e h1 h2
  refine ⟨h1, ?_⟩
  by_cases hq1 : q1 = q
  · rw [hq1, g.2] at h2
    have h3 := List.all_eq_true.mp hno d hdm
    have h4 : t ∈ b.2 := by
      subst e
      rcases d with ⟨ci, fs⟩ | ⟨t1, n, f0⟩
      · have := List.all_eq_true.mp h3 _ hfm
        simpa [hx_n2f, h2] using this
      · subst hfm
        simpa [hx_n2, hx_n2f, h2] using h3
    simpa [hx_rt, hq1] using h4
  · simpa [hx_rt, hq1] using h2
theorem hx_T_rt2 {tb : List hx_d} {L : List Nat} {h : hx_h} {q t0 t ci : Nat} {fs' : List hx_f} (hT : hx_T tb L h) (g : hx_g L h q t0) (hd : tb[t]? = some (.inl (ci, fs'))) (hno : tb.all (hx_n2 t0 t) = true) (hf : ∀ k f, fs'[k]? = some f → hx_o L h f (h.2.1 q k) (h.2.2 q k)) : hx_T tb L (hx_rt h q t) := by
  have key := hx_rt_key g hno
  intro c hc
  by_cases hcq : c = q
  · subst hcq
    unfold hx_c
    have e1 : (hx_rt h c t).1 c = t := by simp [hx_rt]
    rw [e1, hd]
    intro k f hk
    exact hx_o_mono (hf k f hk) (fun q1 b e _ h1 h2 => key f _ (List.mem_of_getElem? hd) (List.mem_of_getElem? hk) q1 b e h1 h2)
  · exact hx_c_mono (hT c hc) (by simp [hx_rt, hcq]) (fun _ => rfl) (fun _ => rfl) key
theorem hx_T_rtA {tb : List hx_d} {L : List Nat} {h : hx_h} {q t0 t t1 n : Nat} {f0 : hx_f} (hT : hx_T tb L h) (g : hx_g L h q t0) (hd0 : tb[t0]? = some (.inr (t1, n, f0))) (hd : tb[t]? = some (.inr (t1, n, f0))) (hno : tb.all (hx_n2 t0 t) = true) : hx_T tb L (hx_rt h q t) := by
  have key := hx_rt_key g hno
  intro c hc
  by_cases hcq : c = q
  · subst hcq
    have h0 := hT c hc
    unfold hx_c at h0 ⊢
    have e1 : (hx_rt h c t).1 c = t := by simp [hx_rt]
    rw [g.2, hd0] at h0
    rw [e1, hd]
    intro k hk
    exact hx_o_mono (h0 k hk) (fun q1 b e _ h1 h2 => key f0 _ (List.mem_of_getElem? hd) rfl q1 b e h1 h2)
  · exact hx_c_mono (hT c hc) (by simp [hx_rt, hcq]) (fun _ => rfl) (fun _ => rfl) key
theorem hx_W_rtA {tb : List hx_d} {tys : hx_y} {D : va_G} {cl : List vw_C} {A : Nat → Prop} {H0 H : Heap} {L : List Nat} {h : hx_h} {s : State} {locs : List Loc} {q t0 t t1 n : Nat} {f0 : hx_f} (hW : hx_W tb tys D cl A H0 L h s H locs) (g : hx_g L h q t0) (hd0 : tb[t0]? = some (.inr (t1, n, f0))) (hd : tb[t]? = some (.inr (t1, n, f0))) : hx_W tb tys D cl A H0 L (hx_rt h q t) s H locs := by
  have e : hx_p tb tys L (hx_rt h q t) = hx_p tb tys L h := by
    refine va_pl_congr (fun b => ?_)
    by_cases hb : b = q
    · subst hb
      rw [hx_e_arr (h := hx_rt h b t) (t := t) (by simp [hx_rt]) hd, hx_e_arr g.2 hd0]
      rfl
    · have : (hx_rt h q t).1 b = h.1 b := by simp [hx_rt, hb]
      unfold hx_e
      rw [this]
      rfl
  obtain ⟨hK, hP, hD, hS, hA⟩ := hW
  exact ⟨hK, by rw [e]; exact hP, by rw [e]; exact hD, hS, hA⟩
theorem hx_S_rt2 {tb : List hx_d} {M : hx_m} {L L1 : List Nat} {h h1 : hx_h} {q t : Nat} (hM : hx_S tb M L h L1 h1) (nq : ∀ a ∈ L, a ≠ q) : hx_S tb M L h L1 (hx_rt h1 q t) := by
  refine ⟨fun a ha => ⟨(hM.1 a ha).1, ?_⟩, fun a ha k hk => hM.2 a ha k hk⟩
  have n := nq a ha
  simp only [hx_rt, n, if_false]
  exact (hM.1 a ha).2
end
section
set_option maxHeartbeats 4000000 in
set_option maxRecDepth 100000 in
theorem t_X9_feedBytes_v (l : Launch) (dC : Nat → ClassId) (dI : Nat → Nat → Nat) (dA : Nat → ClassId) (L : List Nat) (h : hx_h) (sz : Nat) (x : Nat) (i1 : Int32) (hT : hx_T T_tb L h) (gx : hx_g L h x 9) (qt : Nat) (gqt : hx_g L h qt 42) (f_x_0 : h.2.2 x 0 = some qt) (tf : Nat → Int32) (af_qt : h.2.1 qt = tf) (t0 : Int32) (f_x_1 : h.2.1 x 1 = t0) (ht0 : t0.toInt ≤ 396) : Met l yX9_feedBytes (Cond.code yX9_feedBytes cX9_feedBytes 3 none :: hx_all) ({ frames := 0, cells := 0, slots := 0, locals := 0 }) (va_Pc [.ref x, .int i1] (hx_B T_tb (P_ty dA) (dC, dI) vwCl L h sz)) (va_Qv (fun (u : List Nat × hx_h) => (∃ (t1 : Int32) (tf1 : Nat → Int32), u.2.2.1 x 1 = t1 ∧ u.2.2.1 qt = tf1 ∧ (t1.toInt = t0.toInt + 4 ∧ tf1 = hv_FD tf t0.toInt.toNat i1 4)) ∧ hx_T T_tb u.1 u.2 ∧ hx_S T_tb [(9, 1), (42, 0)] L h u.1 u.2) (hx_E T_tb (P_ty dA) (dC, dI) vwCl (hx_A L sz)) (hx_A L sz)) 0 0 (hx_A L sz) := by
  refine hx_met (lv := [(0, .ref x), (1, .int i1)]) (by decide +kernel) rfl (Nat.le_of_ble_eq_true rfl) rfl ?_
  intro p e s m below meth c hx hb hml hr hlk hts0 hown hin hsz hW ls hl
  have hts : ∀ w ∈ hx_all, w.before _ s = true := fun w hw => hts0 w (List.mem_cons_of_mem _ hw)
  have hown : s.vm.findClass "SmallCourt" = some m.cls := hown
  have hM : hx_S T_tb [(9, 1), (42, 0)] L h L h := hx_S.rf
  have b_t0 := hT.gi gx tt_9 (k := 1) rfl
  rw [f_x_1] at b_t0
  have b_t0 : 0 ≤ t0.toInt ∧ t0.toInt ≤ 400 := b_t0
  refine lv_bipush (v := 24) hx hb dX9_feedBytes_0 ?o0 ?_
  case o0 => decide
  refine lv_istore_n (lv' := [(2, .int (24 : Int32)), (0, .ref x), (1, .int i1)]) hx hb dX9_feedBytes_2 rfl hl ?o1 rfl (fun ls hl => ?_)
  case o1 => decide
  have loop3 : ∀ (n3 : Nat) (iv3_2 fw3_x_1 : Int32) (ia3_qt : Nat → Int32) (H : Heap) (locs : List Loc) (hL1 : List Nat) (hl1 : hx_h), -8 ≤ iv3_2.toInt → iv3_2.toInt ≤ 24 → 0 ≤ fw3_x_1.toInt → fw3_x_1.toInt ≤ 400 → (8 * fw3_x_1.toInt = 8 * t0.toInt + 24 - iv3_2.toInt) → (ia3_qt = hv_FD tf t0.toInt.toNat i1 (fw3_x_1.toInt - t0.toInt).toNat) → (t0.toInt ≤ fw3_x_1.toInt) → ∀ (ls : Array Slot), iv3_2.toInt + 8 < (n3 : Int) → hx_W T_tb (P_ty dA) (dC, dI) vwCl (hx_A L sz) s.heap hL1 hl1 s H locs → hx_T T_tb hL1 hl1 → hx_S T_tb [(9, 1), (42, 0)] L h hL1 hl1 → hl1.2.1 x 1 = fw3_x_1 → hl1.2.1 qt = ia3_qt → lv_has ls 3 [(2, .int iv3_2), (0, .ref x), (1, .int i1)] → W p l e ({ frames := 0, cells := 0, slots := 0, locals := 0 }) s m ([.ref x, .int i1] : List Value).toArray below meth c H locs 0 0 (MQ below (va_Qv (fun (u : List Nat × hx_h) => (∃ (t1 : Int32) (tf1 : Nat → Int32), u.2.2.1 x 1 = t1 ∧ u.2.2.1 qt = tf1 ∧ (t1.toInt = t0.toInt + 4 ∧ tf1 = hv_FD tf t0.toInt.toNat i1 4)) ∧ hx_T T_tb u.1 u.2 ∧ hx_S T_tb [(9, 1), (42, 0)] L h u.1 u.2) (hx_E T_tb (P_ty dA) (dC, dI) vwCl (hx_A L sz)) (hx_A L sz)) ([.ref x, .int i1] : List Value).toArray s 0 0 (hx_A L sz)) (F0 m 3 ls []) := by
    intro n3
    induction n3 with
    | zero => intro iv3_2 fw3_x_1 ia3_qt H locs hL1 hl1 bliv3_2 buiv3_2 blfw3_x_1 bufw3_x_1 vi3_0 vi3_1 vi3_2 ls hn3; exfalso; omega
    | succ n3 ih3 =>
      intro iv3_2 fw3_x_1 ia3_qt H locs hL1 hl1 bliv3_2 buiv3_2 blfw3_x_1 bufw3_x_1 vi3_0 vi3_1 vi3_2 ls hn3 hW hT hM ffw3_x_1 nia3_qt hl
      refine lv_iload_n hx hb dX9_feedBytes_3 rfl (lv_at hl 0 rfl) ?_
      refine hb_if_lt (zx := iv3_2.toInt) (tgt := 46) hx hb rfl dX9_feedBytes_4 ?o2 (fun c_1 => ?_) (fun c_1 => ?_)
      case o2 => decide
      · skip
        refine hx_retv hx hb hr hlk hW ⟨⟨fw3_x_1, ia3_qt, ffw3_x_1, nia3_qt, ⟨?o3, (by rw [vi3_1]; congr 1; omega)⟩⟩, hT, hM⟩ dX9_feedBytes_46
        case o3 => omega
      · skip
        refine lv_aload_n hx hb dX9_feedBytes_7 rfl (lv_at hl 1 rfl) ?_
        refine hk_geti hx hb hts hC_9 hown hW (gx.S hM) tt_9 1 ?o4 rfl kw_365 ⟨rfl, rfl, rfl⟩ ffw3_x_1 dX9_feedBytes_8 ?_
        case o4 => decide
        refine lv_sipush (v := 400) hx hb dX9_feedBytes_11 ?o5 ?_
        case o5 => decide
        refine hb_icmp_ge (zx := fw3_x_1.toInt) (zy := 400) (tgt := 46) hx hb rfl ?o6 dX9_feedBytes_14 ?o7 (fun c_2 => ?_) (fun c_2 => ?_)
        case o6 => decide
        case o7 => decide
        · skip
          refine hx_retv hx hb hr hlk hW ⟨⟨fw3_x_1, ia3_qt, ffw3_x_1, nia3_qt, ⟨?o8, (by rw [vi3_1]; congr 1; omega)⟩⟩, hT, hM⟩ dX9_feedBytes_46
          case o8 => omega
        · skip
          refine lv_aload_n hx hb dX9_feedBytes_17 rfl (lv_at hl 1 rfl) ?_
          refine hk_getr hx hb hts hC_9 hown hW (gx.S hM) tt_9 0 ?o9 rfl kw_364 ⟨rfl, rfl, rfl⟩ ((hM.o gx trivial rfl).2.trans f_x_0) dX9_feedBytes_18 ?_
          case o9 => decide
          refine lv_aload_n hx hb dX9_feedBytes_21 rfl (lv_at hl 1 rfl) ?_
          refine hk_geti hx hb hts hC_9 hown hW (gx.S hM) tt_9 1 ?o10 rfl kw_365 ⟨rfl, rfl, rfl⟩ ffw3_x_1 dX9_feedBytes_22 ?_
          case o10 => decide
          refine lv_iload_n hx hb dX9_feedBytes_25 rfl (lv_at hl 2 rfl) ?_
          refine lv_iload_n hx hb dX9_feedBytes_26 rfl (lv_at hl 0 rfl) ?_
          refine lv_ishr hx hb dX9_feedBytes_27 ?_
          refine lv_topi (fun x_3 ex_3 => ?_)
          refine lv_i2b hx hb dX9_feedBytes_28 rfl ?_
          refine lv_topi (fun x_4 ex_4 => ?_)
          have nia3_qtO := nia3_qt
          refine hx_bast hx hb hW hT (hx_S.rf (M := [(42, 0)])) (gqt.S hM) tt_42 rfl ⟨?o11, ?o12⟩ (y := x_4) (hv_nb8 ex_4) (hv_nb9 ex_4) (List.mem_singleton.mpr rfl) dX9_feedBytes_29 (fun H locs h_5 eh_5 hW hT hs => ?_)
          case o11 => omega
          case o12 => omega
          replace ffw3_x_1 := (hs.o (gx.S hM) trivial rfl).1.trans ffw3_x_1
          replace hM := hM.tr (hs.mono ?o13)
          case o13 => decide
          obtain ⟨fa_6, dfa_6⟩ : ∃ g : Nat → Int32, g = hx_up ia3_qt fw3_x_1.toNatClampNeg x_4 := ⟨_, rfl⟩
          have nfa_6 : h_5.2.1 qt = fa_6 := ?o14
          case o14 =>
            rw [eh_5, dfa_6, ← nia3_qtO]
            exact hx_pi_fun _ _ _ _
          refine lv_aload_n hx hb dX9_feedBytes_30 rfl (lv_at hl 1 rfl) ?_
          refine lv_dup hx hb dX9_feedBytes_31 rfl ?_
          refine hk_geti hx hb hts hC_9 hown hW (gx.S hM) tt_9 1 ?o15 rfl kw_365 ⟨rfl, rfl, rfl⟩ ffw3_x_1 dX9_feedBytes_32 ?_
          case o15 => decide
          refine lv_iconst (v := 1) hx hb dX9_feedBytes_35 ?o16 ?_
          case o16 => decide
          refine lv_iadd hx hb dX9_feedBytes_36 ?_
          have rg_7 := i32_r fw3_x_1
          refine lv_topi (fun x_8 ex_8 => ?_)
          have zx_8 : x_8.toInt = fw3_x_1.toInt + 1 := ?o17
          case o17 =>
            rw [ex_8]
            refine i32_add rfl ?o18 ?o19 ?o20
            case o18 => decide
            case o19 => omega
            case o20 => omega
          refine hx_puti hx hb hts hC_9 hown hW hT (hx_S.rf (M := [(9, 1)])) (gx.S hM) tt_9 1 ?o21 rfl kw_365 ⟨rfl, rfl, rfl⟩ rfl (x := x_8) ⟨?o22, ?o23⟩ rfl rfl rfl (List.mem_singleton.mpr rfl) dX9_feedBytes_37 (fun H locs h_9 eh_9 hW hT hs => ?_)
          case o21 => decide
          case o22 => omega
          case o23 => omega
          replace nfa_6 : h_9.2.1 qt = fa_6 := (funext fun j => (hs.a (gqt.S hM) rfl j).1).trans nfa_6
          replace hM := hM.tr (hs.mono ?o24)
          case o24 => decide
          have f_10 : h_9.2.1 x 1 = x_8 := ?o25
          case o25 =>
            rw [eh_9]
            exact hx_pi_at _ _ _ _
          obtain ⟨x_11, ex_11⟩ : ∃ y : Int32, y = iv3_2 + Int32.ofInt (-8) := ⟨_, rfl⟩
          have rg_12 := i32_r iv3_2
          have zx_11 : x_11.toInt = iv3_2.toInt + (-8) := ?o26
          case o26 =>
            rw [ex_11]
            refine i32_add rfl ?o27 ?o28 ?o29
            case o27 => decide
            case o28 => omega
            case o29 => omega
          refine lv_iinc (v := x_11) (lv' := [(2, .int x_11), (0, .ref x), (1, .int i1)]) hx hb dX9_feedBytes_40 hl (k := 0) rfl ex_11.symm ?o30 rfl (fun ls hl => ?_)
          case o30 => decide
          refine lv_goto (tgt := 3) hx hb dX9_feedBytes_43 ?o31 ?_
          case o31 => decide
          refine ih3 x_11 x_8 fa_6 _ _ hL1 h_9 ?o32 ?o33 ?o34 ?o35 ?o36 (hv_FD_s vi3_1 dfa_6 ex_3 ex_4 ?o37 ?o38 ?o39 ?o40 zx_8) ?o41 ls ?o42 hW hT hM f_10 nfa_6 (lv_sub hl [0, 1, 2] rfl)
          case o32 => omega
          case o33 => omega
          case o34 => omega
          case o35 => omega
          case o36 => omega
          case o37 => omega
          case o38 => omega
          case o39 => omega
          case o40 => omega
          case o41 => omega
          case o42 => omega
  have zk_24 : (24 : Int32).toInt = 24 := ?o43
  case o43 => decide
  refine loop3 33 (24 : Int32) t0 tf _ _ L h ?o44 ?o45 ?o46 ?o47 ?o48 (by rw [show (t0.toInt - t0.toInt).toNat = 0 by omega]; rfl) ?o49 ls ?o50 hW hT hM f_x_1 af_qt hl
  case o44 => decide
  case o45 => decide
  case o46 => omega
  case o47 => omega
  case o48 => omega
  case o49 => omega
  case o50 => omega


set_option maxHeartbeats 4000000 in
set_option maxRecDepth 100000 in
theorem t_X9_feed_v (l : Launch) (dC : Nat → ClassId) (dI : Nat → Nat → Nat) (dA : Nat → ClassId) (L : List Nat) (h : hx_h) (sz : Nat) (x : Nat) (i1 : Int32) (i2 : Int32) (i3 : Int32) (i4 : Int32) (i5 : Int32) (hT : hx_T T_tb L h) (gx : hx_g L h x 9) (qt : Nat) (gqt : hx_g L h qt 42) (f_x_0 : h.2.2 x 0 = some qt) (tf : Nat → Int32) (af_qt : h.2.1 qt = tf) (t0 : Int32) (f_x_1 : h.2.1 x 1 = t0) : Met l yX9_feed (Cond.code yX9_feed cX9_feed 6 (some .int) :: hx_all) ({ frames := 1, cells := 0, slots := 0, locals := 22 }) (va_Pc [.ref x, .int i1, .int i2, .int i3, .int i4, .int i5] (hx_B T_tb (P_ty dA) (dC, dI) vwCl L h sz)) (va_Qi (fun (r : Int32) (u : List Nat × hx_h) => (∃ (t1 : Int32) (tf1 : Nat → Int32), u.2.2.1 x 1 = t1 ∧ u.2.2.1 qt = tf1 ∧ (hv_FE tf t0 i1 i2 i3 i4 i5 r t1 tf1)) ∧ hx_T T_tb u.1 u.2 ∧ hx_S T_tb [(9, 1), (42, 0)] L h u.1 u.2) (hx_E T_tb (P_ty dA) (dC, dI) vwCl (hx_A L sz)) (hx_A L sz)) 0 0 (hx_A L sz) := by
  refine hx_met (lv := [(0, .ref x), (1, .int i1), (2, .int i2), (3, .int i3), (4, .int i4), (5, .int i5)]) (by decide +kernel) rfl (Nat.le_of_ble_eq_true rfl) rfl ?_
  intro p e s m below meth c hx hb hml hr hlk hts0 hown hin hsz hW ls hl
  have hts : ∀ w ∈ hx_all, w.before _ s = true := fun w hw => hts0 w (List.mem_cons_of_mem _ hw)
  have hown : s.vm.findClass "SmallCourt" = some m.cls := hown
  have hM : hx_S T_tb [(9, 1), (42, 0)] L h L h := hx_S.rf
  have b_t0 := hT.gi gx tt_9 (k := 1) rfl
  rw [f_x_1] at b_t0
  have b_t0 : 0 ≤ t0.toInt ∧ t0.toInt ≤ 400 := b_t0
  refine lv_aload_n hx hb dX9_feed_0 rfl (lv_at hl 0 rfl) ?_
  refine hk_geti hx hb hts hC_9 hown hW (gx.S hM) tt_9 1 ?o0 rfl kw_365 ⟨rfl, rfl, rfl⟩ f_x_1 dX9_feed_1 ?_
  case o0 => decide
  refine lv_bipush (v := 20) hx hb dX9_feed_4 ?o1 ?_
  case o1 => decide
  refine lv_iadd hx hb dX9_feed_6 ?_
  have rg_1 := i32_r t0
  refine lv_topi (fun x_2 ex_2 => ?_)
  have zx_2 : x_2.toInt = t0.toInt + 20 := ?o2
  case o2 =>
    rw [ex_2]
    refine i32_add rfl ?o3 ?o4 ?o5
    case o3 => decide
    case o4 => omega
    case o5 => omega
  refine lv_sipush (v := 400) hx hb dX9_feed_7 ?o6 ?_
  case o6 => decide
  refine hb_icmp_le (zx := x_2.toInt) (zy := 400) (tgt := 15) hx hb rfl ?o7 dX9_feed_10 ?o8 (fun c_3 => ?_) (fun c_3 => ?_)
  case o7 => decide
  case o8 => decide
  · skip
    refine lv_aload_n hx hb dX9_feed_15 rfl (lv_at hl 0 rfl) ?_
    refine lv_iload_n hx hb dX9_feed_16 rfl (lv_at hl 1 rfl) ?_
    refine hx_gov (hx_runV (As := [.int i1]) (rest := []) ⟨hx, hb, hml, hown, hts⟩ hW (gx.S hM) tt_9 (T := TX9) (N := 20) rfl (t_X9_feedBytes_v l dC dI dA L h s.heap.size x i1 hT (gx.S hM) qt (gqt.S hM) ((hM.o gx trivial rfl).2.trans f_x_0) tf af_qt t0 f_x_1 ?o9) (cwV 1 hts (hx_gV kw_442 kw_439 kw_441 kw_0 kw_94) rfl rfl rfl (by decide +kernel) ⟨Nat.le_of_ble_eq_true rfl, Nat.le_of_ble_eq_true rfl⟩) rfl hl.1 rfl (Nat.le_of_ble_eq_true rfl) dX9_feed_17 ⟨Nat.le_of_ble_eq_true rfl, Nat.le_of_ble_eq_true rfl⟩) hW (fun L_4 h_5 H locs p_7 hW => ?_)
    case o9 => omega
    obtain ⟨⟨w_9, w_10, fw_9, fw_10, hr_8⟩, hT, hs⟩ := p_7
    replace hT : hx_T T_tb L_4 h_5 := hT
    replace hs : hx_S T_tb [(9, 1), (42, 0)] L h L_4 h_5 := hs
    replace hM := hM.tr (hs.mono ?o10)
    case o10 => decide
    have fw_9 : h_5.2.1 x 1 = w_9 := fw_9
    have bw_9 := hT.gi (gx.S hM) tt_9 (k := 1) rfl
    rw [fw_9] at bw_9
    have bw_9 : 0 ≤ w_9.toInt ∧ w_9.toInt ≤ 400 := bw_9
    have fw_10 : h_5.2.1 qt = w_10 := fw_10
    refine lv_aload_n hx hb dX9_feed_20 rfl (lv_at hl 0 rfl) ?_
    refine lv_iload_n hx hb dX9_feed_21 rfl (lv_at hl 2 rfl) ?_
    refine hx_gov (hx_runV (As := [.int i2]) (rest := []) ⟨hx, hb, hml, hown, hts⟩ hW (gx.S hM) tt_9 (T := TX9) (N := 20) rfl (t_X9_feedBytes_v l dC dI dA L_4 h_5 H.size x i2 hT (gx.S hM) qt (gqt.S hM) ((hM.o gx trivial rfl).2.trans f_x_0) w_10 fw_10 w_9 fw_9 ?o11) (cwV 1 hts (hx_gV kw_442 kw_439 kw_441 kw_0 kw_94) rfl rfl rfl (by decide +kernel) ⟨Nat.le_of_ble_eq_true rfl, Nat.le_of_ble_eq_true rfl⟩) rfl hl.1 rfl (Nat.le_of_ble_eq_true rfl) dX9_feed_22 ⟨Nat.le_of_ble_eq_true rfl, Nat.le_of_ble_eq_true rfl⟩) hW (fun L_11 h_12 H locs p_14 hW => ?_)
    case o11 => omega
    obtain ⟨⟨w_16, w_17, fw_16, fw_17, hr_15⟩, hT, hs⟩ := p_14
    replace hT : hx_T T_tb L_11 h_12 := hT
    replace hs : hx_S T_tb [(9, 1), (42, 0)] L_4 h_5 L_11 h_12 := hs
    replace hM := hM.tr (hs.mono ?o12)
    case o12 => decide
    have fw_16 : h_12.2.1 x 1 = w_16 := fw_16
    have bw_16 := hT.gi (gx.S hM) tt_9 (k := 1) rfl
    rw [fw_16] at bw_16
    have bw_16 : 0 ≤ w_16.toInt ∧ w_16.toInt ≤ 400 := bw_16
    have fw_17 : h_12.2.1 qt = w_17 := fw_17
    refine lv_aload_n hx hb dX9_feed_25 rfl (lv_at hl 0 rfl) ?_
    refine lv_iload_n hx hb dX9_feed_26 rfl (lv_at hl 3 rfl) ?_
    refine hx_gov (hx_runV (As := [.int i3]) (rest := []) ⟨hx, hb, hml, hown, hts⟩ hW (gx.S hM) tt_9 (T := TX9) (N := 20) rfl (t_X9_feedBytes_v l dC dI dA L_11 h_12 H.size x i3 hT (gx.S hM) qt (gqt.S hM) ((hM.o gx trivial rfl).2.trans f_x_0) w_17 fw_17 w_16 fw_16 ?o13) (cwV 1 hts (hx_gV kw_442 kw_439 kw_441 kw_0 kw_94) rfl rfl rfl (by decide +kernel) ⟨Nat.le_of_ble_eq_true rfl, Nat.le_of_ble_eq_true rfl⟩) rfl hl.1 rfl (Nat.le_of_ble_eq_true rfl) dX9_feed_27 ⟨Nat.le_of_ble_eq_true rfl, Nat.le_of_ble_eq_true rfl⟩) hW (fun L_18 h_19 H locs p_21 hW => ?_)
    case o13 => omega
    obtain ⟨⟨w_23, w_24, fw_23, fw_24, hr_22⟩, hT, hs⟩ := p_21
    replace hT : hx_T T_tb L_18 h_19 := hT
    replace hs : hx_S T_tb [(9, 1), (42, 0)] L_11 h_12 L_18 h_19 := hs
    replace hM := hM.tr (hs.mono ?o14)
    case o14 => decide
    have fw_23 : h_19.2.1 x 1 = w_23 := fw_23
    have bw_23 := hT.gi (gx.S hM) tt_9 (k := 1) rfl
    rw [fw_23] at bw_23
    have bw_23 : 0 ≤ w_23.toInt ∧ w_23.toInt ≤ 400 := bw_23
    have fw_24 : h_19.2.1 qt = w_24 := fw_24
    refine lv_aload_n hx hb dX9_feed_30 rfl (lv_at hl 0 rfl) ?_
    refine lv_iload hx hb dX9_feed_31 (lv_at hl 4 rfl) ?_
    refine hx_gov (hx_runV (As := [.int i4]) (rest := []) ⟨hx, hb, hml, hown, hts⟩ hW (gx.S hM) tt_9 (T := TX9) (N := 20) rfl (t_X9_feedBytes_v l dC dI dA L_18 h_19 H.size x i4 hT (gx.S hM) qt (gqt.S hM) ((hM.o gx trivial rfl).2.trans f_x_0) w_24 fw_24 w_23 fw_23 ?o15) (cwV 1 hts (hx_gV kw_442 kw_439 kw_441 kw_0 kw_94) rfl rfl rfl (by decide +kernel) ⟨Nat.le_of_ble_eq_true rfl, Nat.le_of_ble_eq_true rfl⟩) rfl hl.1 rfl (Nat.le_of_ble_eq_true rfl) dX9_feed_33 ⟨Nat.le_of_ble_eq_true rfl, Nat.le_of_ble_eq_true rfl⟩) hW (fun L_25 h_26 H locs p_28 hW => ?_)
    case o15 => omega
    obtain ⟨⟨w_30, w_31, fw_30, fw_31, hr_29⟩, hT, hs⟩ := p_28
    replace hT : hx_T T_tb L_25 h_26 := hT
    replace hs : hx_S T_tb [(9, 1), (42, 0)] L_18 h_19 L_25 h_26 := hs
    replace hM := hM.tr (hs.mono ?o16)
    case o16 => decide
    have fw_30 : h_26.2.1 x 1 = w_30 := fw_30
    have bw_30 := hT.gi (gx.S hM) tt_9 (k := 1) rfl
    rw [fw_30] at bw_30
    have bw_30 : 0 ≤ w_30.toInt ∧ w_30.toInt ≤ 400 := bw_30
    have fw_31 : h_26.2.1 qt = w_31 := fw_31
    refine lv_aload_n hx hb dX9_feed_36 rfl (lv_at hl 0 rfl) ?_
    refine lv_iload hx hb dX9_feed_37 (lv_at hl 5 rfl) ?_
    refine hx_gov (hx_runV (As := [.int i5]) (rest := []) ⟨hx, hb, hml, hown, hts⟩ hW (gx.S hM) tt_9 (T := TX9) (N := 20) rfl (t_X9_feedBytes_v l dC dI dA L_25 h_26 H.size x i5 hT (gx.S hM) qt (gqt.S hM) ((hM.o gx trivial rfl).2.trans f_x_0) w_31 fw_31 w_30 fw_30 ?o17) (cwV 1 hts (hx_gV kw_442 kw_439 kw_441 kw_0 kw_94) rfl rfl rfl (by decide +kernel) ⟨Nat.le_of_ble_eq_true rfl, Nat.le_of_ble_eq_true rfl⟩) rfl hl.1 rfl (Nat.le_of_ble_eq_true rfl) dX9_feed_39 ⟨Nat.le_of_ble_eq_true rfl, Nat.le_of_ble_eq_true rfl⟩) hW (fun L_32 h_33 H locs p_35 hW => ?_)
    case o17 => omega
    obtain ⟨⟨w_37, w_38, fw_37, fw_38, hr_36⟩, hT, hs⟩ := p_35
    replace hT : hx_T T_tb L_32 h_33 := hT
    replace hs : hx_S T_tb [(9, 1), (42, 0)] L_25 h_26 L_32 h_33 := hs
    replace hM := hM.tr (hs.mono ?o18)
    case o18 => decide
    have fw_37 : h_33.2.1 x 1 = w_37 := fw_37
    have bw_37 := hT.gi (gx.S hM) tt_9 (k := 1) rfl
    rw [fw_37] at bw_37
    have bw_37 : 0 ≤ w_37.toInt ∧ w_37.toInt ≤ 400 := bw_37
    have fw_38 : h_33.2.1 qt = w_38 := fw_38
    refine lv_aload_n hx hb dX9_feed_42 rfl (lv_at hl 0 rfl) ?_
    refine hk_geti hx hb hts hC_9 hown hW (gx.S hM) tt_9 1 ?o19 rfl kw_365 ⟨rfl, rfl, rfl⟩ fw_37 dX9_feed_43 ?_
    case o19 => decide
    refine hx_reti hx hb hr hlk hW ⟨⟨w_37, w_38, fw_37, fw_38, (Or.inr ⟨?o20, rfl, ?o21, hv_F5_e hr_8.2 hr_15.2 hr_22.2 hr_29.2 hr_36.2 ?o22 ?o23 ?o24 ?o25⟩)⟩, hT, hM⟩ dX9_feed_46
    case o20 => omega
    case o21 => omega
    case o22 => omega
    case o23 => omega
    case o24 => omega
    case o25 => omega
  · skip
    refine lv_iconst (v := -1) hx hb dX9_feed_13 ?o26 ?_
    case o26 => decide
    refine hx_reti hx hb hr hlk hW ⟨⟨t0, tf, f_x_1, af_qt, (Or.inl ⟨?o27, rfl, rfl, rfl⟩)⟩, hT, hM⟩ dX9_feed_14
    case o27 => omega


set_option maxHeartbeats 4000000 in
set_option maxRecDepth 100000 in
theorem t_X9_end_v (l : Launch) (dC : Nat → ClassId) (dI : Nat → Nat → Nat) (dA : Nat → ClassId) (L : List Nat) (h : hx_h) (sz : Nat) (x : Nat) (i1 : Int32) (hT : hx_T T_tb L h) (gx : hx_g L h x 9) (t0 : Int32) (f_x_1 : h.2.1 x 1 = t0) : Met l yX9_end (Cond.code yX9_end cX9_end 2 (some .int) :: hx_all) ({ frames := 0, cells := 0, slots := 0, locals := 0 }) (va_Pc [.ref x, .int i1] (hx_B T_tb (P_ty dA) (dC, dI) vwCl L h sz)) (va_Qi (fun (r : Int32) (u : List Nat × hx_h) => (∃ (t1 : Int32), u.2.2.1 x 1 = t1 ∧ (hv_EN i1 t0 r t1)) ∧ hx_T T_tb u.1 u.2 ∧ hx_S T_tb [(9, 1)] L h u.1 u.2) (hx_E T_tb (P_ty dA) (dC, dI) vwCl (hx_A L sz)) (hx_A L sz)) 0 0 (hx_A L sz) := by
  refine hx_met (lv := [(0, .ref x), (1, .int i1)]) (by decide +kernel) rfl (Nat.le_of_ble_eq_true rfl) rfl ?_
  intro p e s m below meth c hx hb hml hr hlk hts0 hown hin hsz hW ls hl
  have hts : ∀ w ∈ hx_all, w.before _ s = true := fun w hw => hts0 w (List.mem_cons_of_mem _ hw)
  have hown : s.vm.findClass "SmallCourt" = some m.cls := hown
  have hM : hx_S T_tb [(9, 1)] L h L h := hx_S.rf
  have b_t0 := hT.gi gx tt_9 (k := 1) rfl
  rw [f_x_1] at b_t0
  have b_t0 : 0 ≤ t0.toInt ∧ t0.toInt ≤ 400 := b_t0
  refine lv_iload_n hx hb dX9_end_0 rfl (lv_at hl 1 rfl) ?_
  refine hb_if_lt (zx := i1.toInt) (tgt := 12) hx hb rfl dX9_end_1 ?o0 (fun c_1 => ?_) (fun c_1 => ?_)
  case o0 => decide
  · skip
    refine lv_iconst (v := -1) hx hb dX9_end_12 ?o1 ?_
    case o1 => decide
    refine hx_reti hx hb hr hlk hW ⟨⟨t0, f_x_1, (Or.inl ⟨?o2, rfl, rfl⟩)⟩, hT, hM⟩ dX9_end_13
    case o2 => omega
  · skip
    refine lv_iload_n hx hb dX9_end_4 rfl (lv_at hl 1 rfl) ?_
    refine lv_aload_n hx hb dX9_end_5 rfl (lv_at hl 0 rfl) ?_
    refine hk_geti hx hb hts hC_9 hown hW (gx.S hM) tt_9 1 ?o3 rfl kw_365 ⟨rfl, rfl, rfl⟩ f_x_1 dX9_end_6 ?_
    case o3 => decide
    refine hb_icmp_le (zx := i1.toInt) (zy := t0.toInt) (tgt := 14) hx hb rfl rfl dX9_end_9 ?o4 (fun c_2 => ?_) (fun c_2 => ?_)
    case o4 => decide
    · skip
      refine lv_aload_n hx hb dX9_end_14 rfl (lv_at hl 0 rfl) ?_
      refine lv_iload_n hx hb dX9_end_15 rfl (lv_at hl 1 rfl) ?_
      refine hx_puti hx hb hts hC_9 hown hW hT (hx_S.rf (M := [(9, 1)])) (gx.S hM) tt_9 1 ?o5 rfl kw_365 ⟨rfl, rfl, rfl⟩ rfl (x := i1) ⟨?o6, ?o7⟩ rfl rfl rfl (List.mem_singleton.mpr rfl) dX9_end_16 (fun H locs h_3 eh_3 hW hT hs => ?_)
      case o5 => decide
      case o6 => omega
      case o7 => omega
      replace hM := hM.tr (hs.mono ?o8)
      case o8 => decide
      have f_4 : h_3.2.1 x 1 = i1 := ?o9
      case o9 =>
        rw [eh_3]
        exact hx_pi_at _ _ _ _
      refine lv_iload_n hx hb dX9_end_19 rfl (lv_at hl 1 rfl) ?_
      refine hx_reti hx hb hr hlk hW ⟨⟨i1, f_4, (Or.inr ⟨?o10, ?o11, rfl, rfl⟩)⟩, hT, hM⟩ dX9_end_20
      case o10 => omega
      case o11 => omega
    · skip
      refine lv_iconst (v := -1) hx hb dX9_end_12 ?o12 ?_
      case o12 => decide
      refine hx_reti hx hb hr hlk hW ⟨⟨t0, f_x_1, (Or.inl ⟨?o13, rfl, rfl⟩)⟩, hT, hM⟩ dX9_end_13
      case o13 => omega


set_option maxHeartbeats 4000000 in
set_option maxRecDepth 100000 in
theorem t_X0_init_v (l : Launch) (dC : Nat → ClassId) (dI : Nat → Nat → Nat) (dA : Nat → ClassId) (L : List Nat) (h : hx_h) (sz : Nat) (b0 : hx_z) (x : Nat) (i1 : Int32) (i2 : Int32) (hT : hx_T T_tb L h) (gx : hx_g L h x 116) (hz : ∀ j, h.2.1 x j = 0 ∧ h.2.2 x j = none) (hi1 : -1 ≤ i1.toInt ∧ i1.toInt ≤ 7) (hi2 : -1 ≤ i2.toInt ∧ i2.toInt ≤ 7999) : Met l yX0_init (Cond.code yX0_init cX0_init 3 none :: hx_all) ({ frames := 1, cells := 2, slots := 174, locals := 40 }) (va_Pc [.ref x, .int i1, .int i2] (hx_BX T_tb (P_ty dA) (dC, dI) vwCl L h sz b0)) (va_Qv (fun (u : List Nat × hx_h) => hx_T T_tb u.1 u.2 ∧ hx_S T_tb [(116, 0), (116, 1), (116, 2), (116, 3), (116, 4), (127, 0), (128, 0)] (hx_X L x) h u.1 u.2 ∧ hx_g u.1 u.2 x 129 ∧ u.2.2.1 x 0 = i1 ∧ u.2.2.1 x 1 = i2 ∧ u.2.2.1 x 4 = 3 ∧ (∃ q, u.2.2.2 x 2 = some q ∧ hx_g u.1 u.2 q 127 ∧ (∀ j, j < 14 → u.2.2.1 q j = P_wo j) ∧ ∀ a ∈ hx_X L x, a ≠ q) ∧ (∃ q, u.2.2.2 x 3 = some q ∧ hx_g u.1 u.2 q 128 ∧ ((u.2.2.1 q 0).toInt = 144 ∧ (u.2.2.1 q 1).toInt = 17 ∧ (u.2.2.1 q 2).toInt = -1) ∧ ∀ a ∈ hx_X L x, a ≠ q)) (hx_E T_tb (P_ty dA) (dC, dI) vwCl (hx_A L sz)) (hx_A L sz)) 2 174 (hx_A L sz) := by
  refine hx_metX (lv := [(0, .ref x), (1, .int i1), (2, .int i2)]) (by decide +kernel) rfl (Nat.le_of_ble_eq_true rfl) rfl ?_
  intro p e s m below meth c hx hb hml hr hlk hts0 hown hin hsz hW hZ ls hl
  have hts : ∀ w ∈ hx_all, w.before _ s = true := fun w hw => hts0 w (List.mem_cons_of_mem _ hw)
  have hown : s.vm.findClass "SmallCourt$Act" = some m.cls := hown
  have hin : meth.name = "<init>" := hin
  have hM : hx_S T_tb [(116, 0), (116, 1), (116, 2), (116, 3), (116, 4), (127, 0), (128, 0)] (hx_X L x) h L h := hx_SX_rf
  have hz : ∀ j, ([] : List Nat).contains j = false → h.2.1 x j = 0 ∧ h.2.2 x j = none := fun j _ => hz j
  refine lv_aload_n hx hb dX0_init_0 rfl (lv_at hl 0 rfl) ?_
  refine W.objInit hx hb hown (hts _ kw_153) (hts _ kw_117) (hts _ kw_118) rfl (by rw [hml]; exact hl.1) rfl dX0_init_1 (Nat.le_of_ble_eq_true rfl) (Nat.le_of_ble_eq_true rfl) ?_
  refine W.eq (g2 := F0 m 4 ls []) rfl ?_
  refine lv_aload_n hx hb dX0_init_4 rfl (lv_at hl 0 rfl) ?_
  refine lv_bipush (v := 14) hx hb dX0_init_5 ?o0 ?_
  case o0 => decide
  refine hk_newa hx hb hts hW 127 tt_127 (atype := .int) rfl kw_186 (tys := P_ty dA) (t0 := 0) rfl (fun _ => Iff.rfl) rfl (i := (14 : Int32)) ?o1 (Nat.le_of_ble_eq_true rfl) (Nat.le_of_ble_eq_true rfl) (Nat.le_of_ble_eq_true rfl) dX0_init_7 (fun q_2 H h_1 eh_1 hqq_2 hW hs gq_2 => ?_)
  case o1 => decide
  have nq_q_2 : ∀ a ∈ (hx_X L x), a ≠ q_2 := fun a ha z => hqq_2 (z ▸ (hM.1 a ha).1)
  have hT : hx_T T_tb (L ++ [q_2]) h_1 := ?o2
  case o2 =>
    rw [eh_1]
    exact hx_T_nw hT hqq_2 tt_127 rfl
  replace hz := hx_zr [] hz hs gx trivial rfl
  replace hM := hM.tr (hs.mono ?o3)
  case o3 => decide
  replace gx := gx.S hs
  refine hx_putrF hx hb hts hC_0 hown hW hT (hx_S.rf (M := [(116, 2)])) gx tt_116 2 ?o4 rfl kw_166 ⟨rfl, rfl, rfl⟩ rfl hin rfl (x := (some q_2)) ⟨fun _ z => (by cases z), fun q hq => (by cases hq; exact ⟨gq_2.1, by rw [gq_2.2]; decide⟩)⟩ rfl rfl rfl (List.mem_singleton.mpr rfl) dX0_init_9 (fun H locs h_3 eh_3 hW hT hs => ?_)
  case o4 => decide
  replace hz := hx_zr [2] hz hs gx trivial rfl
  replace hM := hM.tr (hs.mono ?o5)
  case o5 => decide
  replace gx := gx.S hs
  replace gq_2 := gq_2.S hs
  have f_4 : h_3.2.2 x 2 = (some q_2) := ?o6
  case o6 =>
    rw [eh_3]
    exact hx_pr_at _ _ _ _
  refine lv_aload_n hx hb dX0_init_12 rfl (lv_at hl 0 rfl) ?_
  refine lv_sipush (v := 160) hx hb dX0_init_13 ?o7 ?_
  case o7 => decide
  refine hk_newa hx hb hts hW 128 tt_128 (atype := .int) rfl kw_186 (tys := P_ty dA) (t0 := 0) rfl (fun _ => Iff.rfl) rfl (i := (160 : Int32)) ?o8 (Nat.le_of_ble_eq_true rfl) (Nat.le_of_ble_eq_true rfl) (Nat.le_of_ble_eq_true rfl) dX0_init_16 (fun q_6 H h_5 eh_5 hqq_6 hW hs gq_6 => ?_)
  case o8 => decide
  have nq_q_6 : ∀ a ∈ (hx_X L x), a ≠ q_6 := fun a ha z => hqq_6 (z ▸ (hM.1 a ha).1)
  have hT : hx_T T_tb ((L ++ [q_2]) ++ [q_6]) h_5 := ?o9
  case o9 =>
    rw [eh_5]
    exact hx_T_nw hT hqq_6 tt_128 rfl
  replace f_4 := (hs.o gx trivial rfl).2.trans f_4
  replace hz := hx_zr [2] hz hs gx trivial rfl
  replace hM := hM.tr (hs.mono ?o10)
  case o10 => decide
  replace gx := gx.S hs
  replace gq_2 := gq_2.S hs
  refine hx_putrF hx hb hts hC_0 hown hW hT (hx_S.rf (M := [(116, 3)])) gx tt_116 3 ?o11 rfl kw_172 ⟨rfl, rfl, rfl⟩ rfl hin rfl (x := (some q_6)) ⟨fun _ z => (by cases z), fun q hq => (by cases hq; exact ⟨gq_6.1, by rw [gq_6.2]; decide⟩)⟩ rfl rfl rfl (List.mem_singleton.mpr rfl) dX0_init_18 (fun H locs h_7 eh_7 hW hT hs => ?_)
  case o11 => decide
  replace f_4 := (hs.o gx trivial rfl).2.trans f_4
  replace hz := hx_zr [2, 3] hz hs gx trivial rfl
  replace hM := hM.tr (hs.mono ?o12)
  case o12 => decide
  replace gx := gx.S hs
  replace gq_2 := gq_2.S hs
  replace gq_6 := gq_6.S hs
  have f_8 : h_7.2.2 x 3 = (some q_6) := ?o13
  case o13 =>
    rw [eh_7]
    exact hx_pr_at _ _ _ _
  refine lv_aload_n hx hb dX0_init_21 rfl (lv_at hl 0 rfl) ?_
  refine lv_iload_n hx hb dX0_init_22 rfl (lv_at hl 1 rfl) ?_
  refine hx_putiF hx hb hts hC_0 hown hW hT (hx_S.rf (M := [(116, 0)])) gx tt_116 0 ?o14 rfl kw_162 ⟨rfl, rfl, rfl⟩ rfl hin rfl (x := i1) ⟨?o15, ?o16⟩ rfl rfl rfl (List.mem_singleton.mpr rfl) dX0_init_23 (fun H locs h_9 eh_9 hW hT hs => ?_)
  case o14 => decide
  case o15 => omega
  case o16 => omega
  replace f_4 := (hs.o gx trivial rfl).2.trans f_4
  replace f_8 := (hs.o gx trivial rfl).2.trans f_8
  replace hz := hx_zr [0, 2, 3] hz hs gx trivial rfl
  replace hM := hM.tr (hs.mono ?o17)
  case o17 => decide
  replace gx := gx.S hs
  replace gq_2 := gq_2.S hs
  replace gq_6 := gq_6.S hs
  have f_10 : h_9.2.1 x 0 = i1 := ?o18
  case o18 =>
    rw [eh_9]
    exact hx_pi_at _ _ _ _
  refine lv_aload_n hx hb dX0_init_26 rfl (lv_at hl 0 rfl) ?_
  refine lv_iload_n hx hb dX0_init_27 rfl (lv_at hl 2 rfl) ?_
  refine hx_putiF hx hb hts hC_0 hown hW hT (hx_S.rf (M := [(116, 1)])) gx tt_116 1 ?o19 rfl kw_164 ⟨rfl, rfl, rfl⟩ rfl hin rfl (x := i2) ⟨?o20, ?o21⟩ rfl rfl rfl (List.mem_singleton.mpr rfl) dX0_init_28 (fun H locs h_11 eh_11 hW hT hs => ?_)
  case o19 => decide
  case o20 => omega
  case o21 => omega
  replace f_4 := (hs.o gx trivial rfl).2.trans f_4
  replace f_8 := (hs.o gx trivial rfl).2.trans f_8
  replace f_10 := (hs.o gx trivial rfl).1.trans f_10
  replace hz := hx_zr [0, 1, 2, 3] hz hs gx trivial rfl
  replace hM := hM.tr (hs.mono ?o22)
  case o22 => decide
  replace gx := gx.S hs
  replace gq_2 := gq_2.S hs
  replace gq_6 := gq_6.S hs
  have f_12 : h_11.2.1 x 1 = i2 := ?o23
  case o23 =>
    rw [eh_11]
    exact hx_pi_at _ _ _ _
  obtain ⟨pF0, npF0⟩ : ∃ g : Nat → Int32, h_11.2.1 q_6 = g := ⟨_, rfl⟩
  refine va_getsN hx hb hZ.2.2.1 hW.2.2.2.1 hown (va_Nw.use rfl (hZ.1 _ (List.mem_of_getElem? (i := 1) rfl))) (fun _ h9 => h9) dX0_init_31 ?_
  refine lv_iconst (v := 0) hx hb dX0_init_34 ?o24 ?_
  case o24 => decide
  refine lv_aload_n hx hb dX0_init_35 rfl (lv_at hl 0 rfl) ?_
  refine hk_getr hx hb hts hC_0 hown hW gx tt_116 2 ?o25 rfl kw_166 ⟨rfl, rfl, rfl⟩ f_4 dX0_init_36 ?_
  case o25 => decide
  refine lv_iconst (v := 0) hx hb dX0_init_39 ?o26 ?_
  case o26 => decide
  refine lv_bipush (v := 14) hx hb dX0_init_40 ?o27 ?_
  case o27 => decide
  refine hk_copyx hx hb (hml.trans hl.1.symm) hown (hts _ kw_156) (hts _ kw_158) (hts _ kw_157) (hts _ kw_97) hW hZ.2.2.2.1 hZ.2.2.2.2.1 hZ.2.2.2.2.2.1 gq_2 tt_127 rfl ?o28 rfl rfl ?o29 (Nat.le_of_ble_eq_true rfl) (Nat.le_of_ble_eq_true rfl) dX0_init_42 (fun H locs h_13 fa_14 hW hs => ?_)
  case o28 => decide
  case o29 => decide
  have hT := hx_T_full hT hs tt_127
  replace f_4 := (hs.o gx trivial rfl).2.trans f_4
  replace f_8 := (hs.o gx trivial rfl).2.trans f_8
  replace f_10 := (hs.o gx trivial rfl).1.trans f_10
  replace f_12 := (hs.o gx trivial rfl).1.trans f_12
  replace hz := hx_zr [0, 1, 2, 3] hz hs gx trivial rfl
  replace npF0 : h_13.2.1 q_6 = pF0 := (funext fun j => (hs.a gq_6 rfl j).1).trans npF0
  replace hM := hM.tr (hs.mono ?o30)
  case o30 => decide
  replace gx := gx.S hs
  replace gq_2 := gq_2.S hs
  replace gq_6 := gq_6.S hs
  obtain ⟨fw_15, nfw_15⟩ : ∃ g : Nat → Int32, h_13.2.1 q_2 = g := ⟨_, rfl⟩
  have wfw_15 : ∀ j, j < 14 → fw_15 j = P_wo j := fun j hj => by rw [← nfw_15]; exact fa_14 j hj
  refine lv_aload_n hx hb dX0_init_45 rfl (lv_at hl 0 rfl) ?_
  refine hk_getr hx hb hts hC_0 hown hW gx tt_116 3 ?o31 rfl kw_172 ⟨rfl, rfl, rfl⟩ f_8 dX0_init_46 ?_
  case o31 => decide
  refine lv_iconst (v := 0) hx hb dX0_init_49 ?o32 ?_
  case o32 => decide
  refine lv_iconst (v := 0) hx hb dX0_init_50 ?o33 ?_
  case o33 => decide
  refine lv_iconst (v := 2) hx hb dX0_init_51 ?o34 ?_
  case o34 => decide
  refine lv_iconst (v := 0) hx hb dX0_init_52 ?o35 ?_
  case o35 => decide
  refine lv_iconst (v := 1) hx hb dX0_init_53 ?o36 ?_
  case o36 => decide
  have zc_1 : (1 : Int32).toInt = 1 := ?o37
  case o37 => decide
  have zc_0 : (0 : Int32).toInt = 0 := ?o38
  case o38 => decide
  have zc_2 : (2 : Int32).toInt = 2 := ?o39
  case o39 => decide
  refine hx_goi (hx_runS (As := [.int (0 : Int32), .int (2 : Int32), .int (0 : Int32), .int (1 : Int32)]) (rest := [.int (0 : Int32), .ref q_6]) ⟨hx, hb, hml, hown, hts⟩ hW (t_X0_term_v l dC dI dA ((L ++ [q_2]) ++ [q_6]) h_13 H.size (0 : Int32) (2 : Int32) (0 : Int32) (1 : Int32) hT ⟨?o40, ?o41⟩ ⟨?o42, ?o43⟩ ⟨?o44, ?o45⟩ ⟨?o46, ?o47⟩) (va_cwS 4 hts (hx_gS kw_161 kw_159 kw_160 kw_96) rfl rfl rfl (by decide +kernel) ⟨Nat.le_of_ble_eq_true rfl, Nat.le_of_ble_eq_true rfl⟩) rfl hl.1 rfl (Nat.le_of_ble_eq_true rfl) dX0_init_54 ⟨Nat.le_of_ble_eq_true rfl, Nat.le_of_ble_eq_true rfl⟩) hW (fun r_18 L_16 h_17 H locs p_19 hW => ?_)
  case o40 => omega
  case o41 => omega
  case o42 => omega
  case o43 => omega
  case o44 => omega
  case o45 => omega
  case o46 => omega
  case o47 => omega
  obtain ⟨hr_20, hT, hs⟩ := p_19
  replace hT : hx_T T_tb L_16 h_17 := hT
  replace hs : hx_S T_tb [] ((L ++ [q_2]) ++ [q_6]) h_13 L_16 h_17 := hs
  replace f_4 := (hs.o gx trivial rfl).2.trans f_4
  replace f_8 := (hs.o gx trivial rfl).2.trans f_8
  replace f_10 := (hs.o gx trivial rfl).1.trans f_10
  replace f_12 := (hs.o gx trivial rfl).1.trans f_12
  replace hz := hx_zr [0, 1, 2, 3] hz hs gx trivial rfl
  replace npF0 : h_17.2.1 q_6 = pF0 := (funext fun j => (hs.a gq_6 rfl j).1).trans npF0
  replace nfw_15 : h_17.2.1 q_2 = fw_15 := (funext fun j => (hs.a gq_2 rfl j).1).trans nfw_15
  replace hM := hM.tr (hs.mono ?o48)
  case o48 => decide
  replace gx := gx.S hs
  replace gq_2 := gq_2.S hs
  replace gq_6 := gq_6.S hs
  have npF0O := npF0
  refine hx_iast hx hb hW hT (hx_S.rf (M := [(128, 0)])) gq_6 tt_128 rfl ?o49 rfl (i32_r _) (List.mem_singleton.mpr rfl) dX0_init_57 (fun H locs h_21 eh_21 hW hT hs => ?_)
  case o49 => decide
  replace f_4 := (hs.o gx trivial rfl).2.trans f_4
  replace f_8 := (hs.o gx trivial rfl).2.trans f_8
  replace f_10 := (hs.o gx trivial rfl).1.trans f_10
  replace f_12 := (hs.o gx trivial rfl).1.trans f_12
  replace hz := hx_zr [0, 1, 2, 3] hz hs gx trivial rfl
  replace nfw_15 : h_21.2.1 q_2 = fw_15 := (funext fun j => (hs.a gq_2 rfl j).1).trans nfw_15
  replace hM := hM.tr (hs.mono ?o50)
  case o50 => decide
  replace gx := gx.S hs
  replace gq_2 := gq_2.S hs
  replace gq_6 := gq_6.S hs
  obtain ⟨fa_22, dfa_22⟩ : ∃ g : Nat → Int32, g = hx_up pF0 (0 : Int32).toNatClampNeg r_18 := ⟨_, rfl⟩
  have nfa_22 : h_21.2.1 q_6 = fa_22 := ?o51
  case o51 =>
    rw [eh_21, dfa_22, ← npF0O]
    exact hx_pi_fun _ _ _ _
  refine lv_aload_n hx hb dX0_init_58 rfl (lv_at hl 0 rfl) ?_
  refine hk_getr hx hb hts hC_0 hown hW gx tt_116 3 ?o52 rfl kw_172 ⟨rfl, rfl, rfl⟩ f_8 dX0_init_59 ?_
  case o52 => decide
  refine lv_iconst (v := 1) hx hb dX0_init_62 ?o53 ?_
  case o53 => decide
  refine lv_iconst (v := 1) hx hb dX0_init_63 ?o54 ?_
  case o54 => decide
  refine lv_iconst (v := 2) hx hb dX0_init_64 ?o55 ?_
  case o55 => decide
  refine lv_iconst (v := 0) hx hb dX0_init_65 ?o56 ?_
  case o56 => decide
  refine lv_iconst (v := 0) hx hb dX0_init_66 ?o57 ?_
  case o57 => decide
  refine hx_goi (hx_runS (As := [.int (1 : Int32), .int (2 : Int32), .int (0 : Int32), .int (0 : Int32)]) (rest := [.int (1 : Int32), .ref q_6]) ⟨hx, hb, hml, hown, hts⟩ hW (t_X0_term_v l dC dI dA L_16 h_21 H.size (1 : Int32) (2 : Int32) (0 : Int32) (0 : Int32) hT ⟨?o58, ?o59⟩ ⟨?o60, ?o61⟩ ⟨?o62, ?o63⟩ ⟨?o64, ?o65⟩) (va_cwS 4 hts (hx_gS kw_161 kw_159 kw_160 kw_96) rfl rfl rfl (by decide +kernel) ⟨Nat.le_of_ble_eq_true rfl, Nat.le_of_ble_eq_true rfl⟩) rfl hl.1 rfl (Nat.le_of_ble_eq_true rfl) dX0_init_67 ⟨Nat.le_of_ble_eq_true rfl, Nat.le_of_ble_eq_true rfl⟩) hW (fun r_25 L_23 h_24 H locs p_26 hW => ?_)
  case o58 => omega
  case o59 => omega
  case o60 => omega
  case o61 => omega
  case o62 => omega
  case o63 => omega
  case o64 => omega
  case o65 => omega
  obtain ⟨hr_27, hT, hs⟩ := p_26
  replace hT : hx_T T_tb L_23 h_24 := hT
  replace hs : hx_S T_tb [] L_16 h_21 L_23 h_24 := hs
  replace f_4 := (hs.o gx trivial rfl).2.trans f_4
  replace f_8 := (hs.o gx trivial rfl).2.trans f_8
  replace f_10 := (hs.o gx trivial rfl).1.trans f_10
  replace f_12 := (hs.o gx trivial rfl).1.trans f_12
  replace hz := hx_zr [0, 1, 2, 3] hz hs gx trivial rfl
  replace nfw_15 : h_24.2.1 q_2 = fw_15 := (funext fun j => (hs.a gq_2 rfl j).1).trans nfw_15
  replace nfa_22 : h_24.2.1 q_6 = fa_22 := (funext fun j => (hs.a gq_6 rfl j).1).trans nfa_22
  replace hM := hM.tr (hs.mono ?o66)
  case o66 => decide
  replace gx := gx.S hs
  replace gq_2 := gq_2.S hs
  replace gq_6 := gq_6.S hs
  have nfa_22O := nfa_22
  refine hx_iast hx hb hW hT (hx_S.rf (M := [(128, 0)])) gq_6 tt_128 rfl ?o67 rfl (i32_r _) (List.mem_singleton.mpr rfl) dX0_init_70 (fun H locs h_28 eh_28 hW hT hs => ?_)
  case o67 => decide
  replace f_4 := (hs.o gx trivial rfl).2.trans f_4
  replace f_8 := (hs.o gx trivial rfl).2.trans f_8
  replace f_10 := (hs.o gx trivial rfl).1.trans f_10
  replace f_12 := (hs.o gx trivial rfl).1.trans f_12
  replace hz := hx_zr [0, 1, 2, 3] hz hs gx trivial rfl
  replace nfw_15 : h_28.2.1 q_2 = fw_15 := (funext fun j => (hs.a gq_2 rfl j).1).trans nfw_15
  replace hM := hM.tr (hs.mono ?o68)
  case o68 => decide
  replace gx := gx.S hs
  replace gq_2 := gq_2.S hs
  replace gq_6 := gq_6.S hs
  obtain ⟨fa_29, dfa_29⟩ : ∃ g : Nat → Int32, g = hx_up fa_22 (1 : Int32).toNatClampNeg r_25 := ⟨_, rfl⟩
  have nfa_29 : h_28.2.1 q_6 = fa_29 := ?o69
  case o69 =>
    rw [eh_28, dfa_29, ← nfa_22O]
    exact hx_pi_fun _ _ _ _
  refine lv_aload_n hx hb dX0_init_71 rfl (lv_at hl 0 rfl) ?_
  refine hk_getr hx hb hts hC_0 hown hW gx tt_116 3 ?o70 rfl kw_172 ⟨rfl, rfl, rfl⟩ f_8 dX0_init_72 ?_
  case o70 => decide
  refine lv_iconst (v := 2) hx hb dX0_init_75 ?o71 ?_
  case o71 => decide
  refine lv_iconst (v := -1) hx hb dX0_init_76 ?o72 ?_
  case o72 => decide
  have nfa_29O := nfa_29
  refine hx_iast hx hb hW hT (hx_S.rf (M := [(128, 0)])) gq_6 tt_128 rfl ?o73 rfl ?o74 (List.mem_singleton.mpr rfl) dX0_init_77 (fun H locs h_30 eh_30 hW hT hs => ?_)
  case o73 => decide
  case o74 => decide
  replace f_4 := (hs.o gx trivial rfl).2.trans f_4
  replace f_8 := (hs.o gx trivial rfl).2.trans f_8
  replace f_10 := (hs.o gx trivial rfl).1.trans f_10
  replace f_12 := (hs.o gx trivial rfl).1.trans f_12
  replace hz := hx_zr [0, 1, 2, 3] hz hs gx trivial rfl
  replace nfw_15 : h_30.2.1 q_2 = fw_15 := (funext fun j => (hs.a gq_2 rfl j).1).trans nfw_15
  replace hM := hM.tr (hs.mono ?o75)
  case o75 => decide
  replace gx := gx.S hs
  replace gq_2 := gq_2.S hs
  replace gq_6 := gq_6.S hs
  obtain ⟨fa_31, dfa_31⟩ : ∃ g : Nat → Int32, g = hx_up fa_29 (2 : Int32).toNatClampNeg (-1 : Int32) := ⟨_, rfl⟩
  have nfa_31 : h_30.2.1 q_6 = fa_31 := ?o76
  case o76 =>
    rw [eh_30, dfa_31, ← nfa_29O]
    exact hx_pi_fun _ _ _ _
  refine lv_aload_n hx hb dX0_init_78 rfl (lv_at hl 0 rfl) ?_
  refine lv_iconst (v := 3) hx hb dX0_init_79 ?o77 ?_
  case o77 => decide
  refine hx_puti hx hb hts hC_0 hown hW hT (hx_S.rf (M := [(116, 4)])) gx tt_116 4 ?o78 rfl kw_173 ⟨rfl, rfl, rfl⟩ rfl (x := (3 : Int32)) ?o79 rfl rfl rfl (List.mem_singleton.mpr rfl) dX0_init_80 (fun H locs h_32 eh_32 hW hT hs => ?_)
  case o78 => decide
  case o79 => decide
  replace f_4 := (hs.o gx trivial rfl).2.trans f_4
  replace f_8 := (hs.o gx trivial rfl).2.trans f_8
  replace f_10 := (hs.o gx trivial rfl).1.trans f_10
  replace f_12 := (hs.o gx trivial rfl).1.trans f_12
  replace hz := hx_zr [0, 1, 2, 3, 4] hz hs gx trivial rfl
  replace nfw_15 : h_32.2.1 q_2 = fw_15 := (funext fun j => (hs.a gq_2 rfl j).1).trans nfw_15
  replace nfa_31 : h_32.2.1 q_6 = fa_31 := (funext fun j => (hs.a gq_6 rfl j).1).trans nfa_31
  replace hM := hM.tr (hs.mono ?o80)
  case o80 => decide
  replace gx := gx.S hs
  replace gq_2 := gq_2.S hs
  replace gq_6 := gq_6.S hs
  have f_33 : h_32.2.1 x 4 = (3 : Int32) := ?o81
  case o81 =>
    rw [eh_32]
    exact hx_pi_at _ _ _ _
  have hF : hx_F (fun k f => hx_o L_23 h_32 f (h_32.2.1 x k) (h_32.2.2 x k)) T_a0 0 := ⟨hx_oi f_10 ⟨?o82, ?o83⟩, hx_oi f_12 ⟨?o84, ?o85⟩, hx_or f_4 gq_2 ?o86, hx_or f_8 gq_6 ?o87, hx_oi f_33 ?o88, trivial⟩
  case o82 => omega
  case o83 => omega
  case o84 => omega
  case o85 => omega
  case o86 => decide
  case o87 => decide
  case o88 => decide
  have hT := hx_T_rt hT gx tt_129 rfl (hx_F_all hF)
  have hW := hx_W_rt hW gx tt_116 tt_129 (fun _ _ => rfl)
  have hM := hx_SX_rt (x := x) (t := 129) hM
  have gq_2 := hx_rt_o (t := 129) gq_2 (gq_2.ne gx ?o89)
  case o89 => decide
  have gq_6 := hx_rt_o (t := 129) gq_6 (gq_6.ne gx ?o90)
  case o90 => decide
  have gx := hx_rt_g (t := 129) gx
  have f_4 : (hx_rt h_32 x 129).2.2 x 2 = some q_2 := f_4
  have f_8 : (hx_rt h_32 x 129).2.2 x 3 = some q_6 := f_8
  have f_10 : (hx_rt h_32 x 129).2.1 x 0 = i1 := f_10
  have f_12 : (hx_rt h_32 x 129).2.1 x 1 = i2 := f_12
  have f_33 : (hx_rt h_32 x 129).2.1 x 4 = (3 : Int32) := f_33
  have nfw_15 : (hx_rt h_32 x 129).2.1 q_2 = fw_15 := nfw_15
  have nfa_31 : (hx_rt h_32 x 129).2.1 q_6 = fa_31 := nfa_31
  generalize eh : hx_rt h_32 x 129 = h_34 at hT hW hM gx gq_2 gq_6 f_4 f_8 f_10 f_12 f_33 nfw_15 nfa_31
  refine W.widen (k := 2) (n := 174) (Nat.le_of_ble_eq_true rfl) (Nat.le_of_ble_eq_true rfl) ?_
  exact hx_retv hx hb hr hlk hW ⟨hT, hM, gx, f_10, f_12, f_33, ⟨q_2, f_4, gq_2, ⟨(fun j hj => by rw [nfw_15]; exact wfw_15 j hj), nq_q_2⟩⟩, ⟨q_6, f_8, gq_6, ⟨(by rw [nfa_31, dfa_31, dfa_29, dfa_22]; exact hv_pr0 (by omega) (by omega) (by decide)), nq_q_6⟩⟩⟩ dX0_init_83


set_option maxHeartbeats 4000000 in
set_option maxRecDepth 100000 in
theorem t_X9_act_v (l : Launch) (dC : Nat → ClassId) (dI : Nat → Nat → Nat) (dA : Nat → ClassId) (L : List Nat) (h : hx_h) (sz : Nat) (b0 : hx_z) (x : Nat) (i1 : Int32) (hT : hx_T T_tb L h) (gx : hx_g L h x 9) (qa : Nat) (gqa : hx_g L h qa 43) (f_x_5 : h.2.2 x 5 = some qa) (qt : Nat) (gqt : hx_g L h qt 42) (f_x_0 : h.2.2 x 0 = some qt) (w : Nat) (gw : hx_g L h w 0) (f_x_4 : h.2.2 x 4 = some w) (tf : Nat → Int32) (af_qt : h.2.1 qt = tf) (a0 : Int32) (f_x_6 : h.2.1 x 6 = a0) (t0 : Int32) (f_x_1 : h.2.1 x 1 = t0) (A : Nat → hv_act) (hRA : hv_RA h qa w a0.toInt A) (pf_x_6 : ∀ j : Nat, (j : Int) < (h.2.1 x 6).toInt → h.2.2 qa j ≠ none) : Met l yX9_act (Cond.code yX9_act cX9_act 4 (some .int) :: hx_all) ({ frames := 27, cells := 3, slots := 179, locals := 619 }) (va_Pc [.ref x, .int i1] (hx_BX T_tb (P_ty dA) (dC, dI) vwCl L h sz b0)) (va_Qi (fun (r : Int32) (u : List Nat × hx_h) => (∃ (a1 : Int32) (t1 : Int32), u.2.2.1 x 6 = a1 ∧ u.2.2.1 x 1 = t1 ∧ (hv_AN (8 ≤ a0.toInt ∨ i1.toInt < 0 ∨ 7999 < i1.toInt) (hv_ACT tf t0.toInt.toNat hv_W0 hv_o0) r a0.toInt a1.toInt t0.toInt t1.toInt ∧ ∃ A1, hv_AU A a0.toInt a1.toInt i1.toInt (hv_ACT tf t0.toInt.toNat hv_W0 hv_o0) A1 ∧ hv_RA u.2 qa w a1.toInt A1)) ∧ hx_T T_tb u.1 u.2 ∧ hx_S T_tb [(6, 0), (6, 1), (6, 2), (6, 3), (6, 4), (6, 5), (6, 6), (9, 1), (9, 6), (43, 0), (116, 0), (116, 1), (116, 2), (116, 3), (116, 4), (127, 0), (128, 0), (129, 4)] L h u.1 u.2 ∧ (∀ j : Nat, (j : Int) < (u.2.2.1 x 6).toInt → u.2.2.2 qa j ≠ none)) (hx_E T_tb (P_ty dA) (dC, dI) vwCl (hx_A L sz)) (hx_A L sz)) 3 179 (hx_A L sz) := by
  refine hx_metX (lv := [(0, .ref x), (1, .int i1)]) (by decide +kernel) rfl (Nat.le_of_ble_eq_true rfl) rfl ?_
  intro p e s m below meth c hx hb hml hr hlk hts0 hown hin hsz hW hZ ls hl
  have hts : ∀ w ∈ hx_all, w.before _ s = true := fun w hw => hts0 w (List.mem_cons_of_mem _ hw)
  have hown : s.vm.findClass "SmallCourt" = some m.cls := hown
  have hM : hx_S T_tb [(6, 0), (6, 1), (6, 2), (6, 3), (6, 4), (6, 5), (6, 6), (9, 1), (9, 6), (43, 0), (116, 0), (116, 1), (116, 2), (116, 3), (116, 4), (127, 0), (128, 0), (129, 4)] L h L h := hx_S.rf
  have b_a0 := hT.gi gx tt_9 (k := 6) rfl
  rw [f_x_6] at b_a0
  have b_a0 : 0 ≤ a0.toInt ∧ a0.toInt ≤ 8 := b_a0
  have b_t0 := hT.gi gx tt_9 (k := 1) rfl
  rw [f_x_1] at b_t0
  have b_t0 : 0 ≤ t0.toInt ∧ t0.toInt ≤ 400 := b_t0
  refine lv_aload_n hx hb dX9_act_0 rfl (lv_at hl 0 rfl) ?_
  refine hk_geti hx hb hts hC_9 hown hW gx tt_9 6 ?o0 rfl kw_370 ⟨rfl, rfl, rfl⟩ f_x_6 dX9_act_1 ?_
  case o0 => decide
  refine lv_bipush (v := 8) hx hb dX9_act_4 ?o1 ?_
  case o1 => decide
  refine hb_icmp_ge (zx := a0.toInt) (zy := 8) (tgt := 16) hx hb rfl ?o2 dX9_act_6 ?o3 (fun c_1 => ?_) (fun c_1 => ?_)
  case o2 => decide
  case o3 => decide
  · skip
    refine lv_iconst (v := -1) hx hb dX9_act_16 ?o4 ?_
    case o4 => decide
    refine W.widen (k := 3) (n := 179) (Nat.le_of_ble_eq_true rfl) (Nat.le_of_ble_eq_true rfl) ?_
    refine hx_reti hx hb hr hlk hW ⟨⟨a0, t0, f_x_6, f_x_1, ⟨(Or.inl ⟨?o5, rfl, ?o6, ?o7⟩), A, Or.inl ⟨?o8, rfl⟩, hRA⟩⟩, hT, hM, pf_x_6⟩ dX9_act_17
    case o5 => omega
    case o6 => omega
    case o7 => omega
    case o8 => omega
  · skip
    refine lv_iload_n hx hb dX9_act_9 rfl (lv_at hl 1 rfl) ?_
    have hTo := hT
    refine hx_goi (hx_runS (As := [.int i1]) (rest := []) ⟨hx, hb, hml, hown, hts⟩ hW (t_X9_isDay_2 l dC dI dA L h s.heap.size i1 hT) (va_cwS 1 hts (hx_gS kw_431 kw_429 kw_430 kw_94) rfl rfl rfl (by decide +kernel) ⟨Nat.le_of_ble_eq_true rfl, Nat.le_of_ble_eq_true rfl⟩) rfl hl.1 rfl (Nat.le_of_ble_eq_true rfl) dX9_act_10 ⟨Nat.le_of_ble_eq_true rfl, Nat.le_of_ble_eq_true rfl⟩) hW (fun r_4 L_2 h_3 H locs p_5 hW => ?_)
    obtain ⟨hr_6, hT, hs⟩ := p_5
    replace hT : hx_T T_tb L_2 h_3 := hT
    replace hs : hx_S T_tb [] L h L_2 h_3 := hs
    replace f_x_5 := (hs.o gx trivial rfl).2.trans f_x_5
    replace f_x_0 := (hs.o gx trivial rfl).2.trans f_x_0
    replace f_x_4 := (hs.o gx trivial rfl).2.trans f_x_4
    replace f_x_6 := (hs.o gx trivial rfl).1.trans f_x_6
    replace f_x_1 := (hs.o gx trivial rfl).1.trans f_x_1
    replace pf_x_6 : ∀ j : Nat, (j : Int) < (h_3.2.1 x 6).toInt → h_3.2.2 qa j ≠ none := by
      intro j hj; rw [(hs.o gx trivial rfl).1] at hj; rw [(hs.a gqa rfl j).2]; exact pf_x_6 j hj
    replace hRA : hv_RA h_3 qa w a0.toInt A := hv_RA_S hs hTo gqa gw tt_43 tt_0 rfl rfl rfl rfl rfl rfl ?o9 hRA
    case o9 => omega
    replace af_qt : h_3.2.1 qt = tf := (funext fun j => (hs.a gqt rfl j).1).trans af_qt
    replace hM := hM.tr (hs.mono ?o10)
    case o10 => decide
    replace gx := gx.S hs
    replace gqa := gqa.S hs
    replace gqt := gqt.S hs
    replace gw := gw.S hs
    refine hb_if_ne (zx := r_4.toInt) (tgt := 18) hx hb rfl dX9_act_13 ?o11 (fun c_7 => ?_) (fun c_7 => ?_)
    case o11 => decide
    · skip
      replace hr_6 := hr_6.resolve_left (fun z9 => c_7 z9.1)
      replace c_7 := hr_6.1
      replace hr_6 := hr_6.2
      have hTo := hT
      refine hk_new hx hb hts hC_0 hown hW 116 tt_116 rfl ?o12 kw_148 kw_149 kw_96 (Nat.le_of_ble_eq_true rfl) (Nat.le_of_ble_eq_true rfl) dX9_act_18 (fun q_9 H h_8 eh_8 hqq_9 hW hs gq_9 => ?_)
      case o12 => decide
      have nq_q_9 : ∀ a ∈ L, a ≠ q_9 := fun a ha z => hqq_9 (z ▸ (hM.1 a ha).1)
      have hT : hx_T T_tb (L_2 ++ [q_9]) h_8 := ?o13
      case o13 =>
        rw [eh_8]
        exact hx_T_nw hT hqq_9 tt_116 rfl
      replace f_x_5 := (hs.o gx trivial rfl).2.trans f_x_5
      replace f_x_0 := (hs.o gx trivial rfl).2.trans f_x_0
      replace f_x_4 := (hs.o gx trivial rfl).2.trans f_x_4
      replace f_x_6 := (hs.o gx trivial rfl).1.trans f_x_6
      replace f_x_1 := (hs.o gx trivial rfl).1.trans f_x_1
      replace pf_x_6 : ∀ j : Nat, (j : Int) < (h_8.2.1 x 6).toInt → h_8.2.2 qa j ≠ none := by
        intro j hj; rw [(hs.o gx trivial rfl).1] at hj; rw [(hs.a gqa rfl j).2]; exact pf_x_6 j hj
      replace hRA : hv_RA h_8 qa w a0.toInt A := hv_RA_S hs hTo gqa gw tt_43 tt_0 rfl rfl rfl rfl rfl rfl ?o14 hRA
      case o14 => omega
      replace af_qt : h_8.2.1 qt = tf := (funext fun j => (hs.a gqt rfl j).1).trans af_qt
      replace hM := hM.tr (hs.mono ?o15)
      case o15 => decide
      replace gx := gx.S hs
      replace gqa := gqa.S hs
      replace gqt := gqt.S hs
      replace gw := gw.S hs
      have fz_10 : ∀ j, ([] : List Nat).contains j = false → h_8.2.1 q_9 j = 0 ∧ h_8.2.2 q_9 j = none := ?o16
      case o16 =>
        rw [eh_8]
        exact fun _ _ => ⟨hx_nw_i, hx_nw_r⟩
      refine lv_dup hx hb dX9_act_21 rfl ?_
      refine lv_aload_n hx hb dX9_act_22 rfl (lv_at hl 0 rfl) ?_
      refine hk_geti hx hb hts hC_9 hown hW gx tt_9 6 ?o17 rfl kw_370 ⟨rfl, rfl, rfl⟩ f_x_6 dX9_act_23 ?_
      case o17 => decide
      refine lv_iload_n hx hb dX9_act_26 rfl (lv_at hl 1 rfl) ?_
      have hMb := hM
      have hTo := hT
      refine hx_gov (hx_runIX (As := [.int a0, .int i1]) (rest := [.ref q_9]) ⟨hx, hb, hml, hown, hts⟩ hW (t_X0_init_v l dC dI dA (L_2 ++ [q_9]) h_8 H.size b0 q_9 a0 i1 hT gq_9 (fun j => fz_10 j rfl) ⟨?o18, ?o19⟩ ⟨?o20, ?o21⟩) hZ (cwI 2 hts (hx_gC kw_152) rfl rfl rfl (hts _ kw_96) (hts _ kw_150) (hts _ kw_151) rfl (by decide +kernel) ⟨Nat.le_of_ble_eq_true rfl, Nat.le_of_ble_eq_true rfl⟩) rfl hl.1 rfl (Nat.le_of_ble_eq_true rfl) dX9_act_27 ⟨Nat.le_of_ble_eq_true rfl, Nat.le_of_ble_eq_true rfl⟩) hW (fun L_11 h_12 H locs p_14 hW => ?_)
      case o18 => omega
      case o19 => omega
      case o20 => omega
      case o21 => omega
      have hTo := hT
      obtain ⟨hT, hs, gNq_9, po_15, po_16, po_17, po_18, po_19⟩ := p_14
      replace hT : hx_T T_tb L_11 h_12 := hT
      replace hs : hx_S T_tb [(116, 0), (116, 1), (116, 2), (116, 3), (116, 4), (127, 0), (128, 0)] (hx_X (L_2 ++ [q_9]) q_9) h_8 L_11 h_12 := hs
      have gx := hx_gX gx (gx.ne gq_9 ?o22)
      case o22 => decide
      have gqa := hx_gX gqa (gqa.ne gq_9 ?o23)
      case o23 => decide
      have gqt := hx_gX gqt (gqt.ne gq_9 ?o24)
      case o24 => decide
      have gw := hx_gX gw (gw.ne gq_9 ?o25)
      case o25 => decide
      replace f_x_5 := (hs.o gx trivial rfl).2.trans f_x_5
      replace f_x_0 := (hs.o gx trivial rfl).2.trans f_x_0
      replace f_x_4 := (hs.o gx trivial rfl).2.trans f_x_4
      replace f_x_6 := (hs.o gx trivial rfl).1.trans f_x_6
      replace f_x_1 := (hs.o gx trivial rfl).1.trans f_x_1
      replace pf_x_6 : ∀ j : Nat, (j : Int) < (h_12.2.1 x 6).toInt → h_12.2.2 qa j ≠ none := by
        intro j hj; rw [(hs.o gx trivial rfl).1] at hj; rw [(hs.a gqa rfl j).2]; exact pf_x_6 j hj
      replace hRA : hv_RA h_12 qa w a0.toInt A := hv_RA_X hs hTo gqa gw gq_9 tt_43 tt_0 rfl rfl rfl rfl rfl rfl ?o26 ?o27 hRA
      case o26 => decide
      case o27 => omega
      replace af_qt : h_12.2.1 qt = tf := (funext fun j => (hs.a gqt rfl j).1).trans af_qt
      replace hM := hM.trX (hs.mono ?o28) nq_q_9
      case o28 => decide
      replace gx := gx.S hs
      replace gqa := gqa.S hs
      replace gqt := gqt.S hs
      replace gw := gw.S hs
      have gq_9 : hx_g L_11 h_12 q_9 129 := gNq_9
      have po_15 : h_12.2.1 q_9 0 = a0 := po_15
      have po_16 : h_12.2.1 q_9 1 = i1 := po_16
      have po_17 : h_12.2.1 q_9 4 = 3 := po_17
      obtain ⟨q_20, fq_20, gq_20, po_18⟩ := po_18
      have fq_20 : h_12.2.2 q_9 2 = some q_20 := fq_20
      have gq_20 : hx_g L_11 h_12 q_20 127 := gq_20
      obtain ⟨po_18, po_18N⟩ := po_18
      have po_18 : (∀ j, j < 14 → h_12.2.1 q_20 j = P_wo j) := po_18
      have po_18N : ∀ a ∈ hx_X (L_2 ++ [q_9]) q_9, a ≠ q_20 := po_18N
      obtain ⟨fw_21, nfw_21⟩ : ∃ g : Nat → Int32, h_12.2.1 q_20 = g := ⟨_, rfl⟩
      rw [nfw_21] at po_18
      obtain ⟨q_22, fq_22, gq_22, po_19⟩ := po_19
      have fq_22 : h_12.2.2 q_9 3 = some q_22 := fq_22
      have gq_22 : hx_g L_11 h_12 q_22 128 := gq_22
      obtain ⟨po_19, po_19N⟩ := po_19
      have po_19 : ((h_12.2.1 q_22 0).toInt = 144 ∧ (h_12.2.1 q_22 1).toInt = 17 ∧ (h_12.2.1 q_22 2).toInt = -1) := po_19
      have po_19N : ∀ a ∈ hx_X (L_2 ++ [q_9]) q_9, a ≠ q_22 := po_19N
      obtain ⟨fw_23, nfw_23⟩ : ∃ g : Nat → Int32, h_12.2.1 q_22 = g := ⟨_, rfl⟩
      rw [nfw_23] at po_19
      refine lv_astore_n (lv' := [(2, .ref q_9), (0, .ref x), (1, .int i1)]) hx hb dX9_act_30 rfl hl ?o29 rfl (fun ls hl => ?_)
      case o29 => decide
      refine lv_aload_n hx hb dX9_act_31 rfl (lv_at hl 1 rfl) ?_
      refine hx_getn hx hb hts hC_9 hown hW hT gx tt_9 3 ?o30 rfl kw_367 ⟨rfl, rfl, rfl⟩ dX9_act_32 (fun q_24 fq_24 gq_24 => ?_)
      case o30 => decide
      refine lv_aload_n hx hb dX9_act_35 rfl (lv_at hl 1 rfl) ?_
      refine hk_getr hx hb hts hC_9 hown hW gx tt_9 0 ?o31 rfl kw_364 ⟨rfl, rfl, rfl⟩ f_x_0 dX9_act_36 ?_
      case o31 => decide
      refine lv_aload_n hx hb dX9_act_39 rfl (lv_at hl 1 rfl) ?_
      refine hk_geti hx hb hts hC_9 hown hW gx tt_9 1 ?o32 rfl kw_365 ⟨rfl, rfl, rfl⟩ f_x_1 dX9_act_40 ?_
      case o32 => decide
      refine lv_aload_n hx hb dX9_act_43 rfl (lv_at hl 0 rfl) ?_
      have hTo := hT
      have zq_3 : (3 : Int32).toInt = 3 := ?o33
      case o33 => decide
      refine hx_goi (hx_runVX (As := [.ref qt, .int t0, .ref q_9]) (rest := []) ⟨hx, hb, hml, hown, hts⟩ hW gq_24 tt_6 (T := TX6) (N := 7) rfl (t_X6_readAct_v l dC dI dA L_11 h_12 H.size b0 q_24 qt t0 q_9 hT gq_24 gqt gq_9 q_22 gq_22 fq_22 q_20 gq_20 fq_20 tf af_qt fw_23 nfw_23 fw_21 nfw_21 (3 : Int32) po_17 ⟨?o34, ?o35⟩ hv_o0 (by rw [show (3 : Int32).toInt.toNat = 3 from by decide]; exact hv_o0_c po_19)) hZ (cwV 3 hts (hx_gV kw_454 kw_451 kw_452 kw_453 kw_95) rfl rfl rfl (by decide +kernel) ⟨Nat.le_of_ble_eq_true rfl, Nat.le_of_ble_eq_true rfl⟩) rfl hl.1 rfl (Nat.le_of_ble_eq_true rfl) dX9_act_44 ⟨Nat.le_of_ble_eq_true rfl, Nat.le_of_ble_eq_true rfl⟩) hW (fun r_27 L_25 h_26 H locs p_28 hW => ?_)
      case o34 => omega
      case o35 => omega
      obtain ⟨⟨w_30, w_31, w_32, fw_30, fw_31, fw_32, hr_29⟩, hT, hs⟩ := p_28
      replace hT : hx_T T_tb L_25 h_26 := hT
      replace hs : hx_S T_tb [(6, 0), (6, 1), (6, 2), (6, 3), (6, 4), (6, 5), (6, 6), (127, 0), (128, 0), (129, 4)] L_11 h_12 L_25 h_26 := hs
      replace f_x_5 := (hs.o gx trivial rfl).2.trans f_x_5
      replace f_x_0 := (hs.o gx trivial rfl).2.trans f_x_0
      replace f_x_4 := (hs.o gx trivial rfl).2.trans f_x_4
      replace f_x_6 := (hs.o gx trivial rfl).1.trans f_x_6
      replace f_x_1 := (hs.o gx trivial rfl).1.trans f_x_1
      replace po_15 := (hs.o gq_9 trivial rfl).1.trans po_15
      replace po_16 := (hs.o gq_9 trivial rfl).1.trans po_16
      replace fq_20 := (hs.o gq_9 trivial rfl).2.trans fq_20
      replace fq_22 := (hs.o gq_9 trivial rfl).2.trans fq_22
      replace fq_24 := (hs.o gx trivial rfl).2.trans fq_24
      replace pf_x_6 : ∀ j : Nat, (j : Int) < (h_26.2.1 x 6).toInt → h_26.2.2 qa j ≠ none := by
        intro j hj; rw [(hs.o gx trivial rfl).1] at hj; rw [(hs.a gqa rfl j).2]; exact pf_x_6 j hj
      replace hRA : hv_RA h_26 qa w a0.toInt A := hv_RA_S hs hTo gqa gw tt_43 tt_0 rfl rfl rfl rfl rfl rfl ?o36 hRA
      case o36 => omega
      replace af_qt : h_26.2.1 qt = tf := (funext fun j => (hs.a gqt rfl j).1).trans af_qt
      replace hM := hM.tr (hs.mono ?o37)
      case o37 => decide
      replace gx := gx.S hs
      replace gqa := gqa.S hs
      replace gqt := gqt.S hs
      replace gw := gw.S hs
      replace gq_9 := gq_9.S hs
      replace gq_20 := gq_20.S hs
      replace gq_22 := gq_22.S hs
      replace gq_24 := gq_24.S hs
      have fw_30 : h_26.2.1 q_9 4 = w_30 := fw_30
      have bw_30 := hT.gi gq_9 tt_129 (k := 4) rfl
      rw [fw_30] at bw_30
      have bw_30 : 0 ≤ w_30.toInt ∧ w_30.toInt ≤ 160 := bw_30
      have fw_31 : h_26.2.1 q_22 = w_31 := fw_31
      have fw_32 : h_26.2.1 q_20 = w_32 := fw_32
      have hra := hr_29; rw [hv_rC_0 po_18] at hra
      refine lv_istore_n (lv' := [(3, .int r_27), (2, .ref q_9), (0, .ref x), (1, .int i1)]) hx hb dX9_act_47 rfl hl ?o38 rfl (fun ls hl => ?_)
      case o38 => decide
      refine lv_aload_n hx hb dX9_act_48 rfl (lv_at hl 2 rfl) ?_
      refine lv_iconst (v := 0) hx hb dX9_act_49 ?o39 ?_
      case o39 => decide
      have hTo := hT
      refine hx_puti hx hb hts hC_9 hown hW hT (hx_S.rf (M := [(9, 1)])) gx tt_9 1 ?o40 rfl kw_365 ⟨rfl, rfl, rfl⟩ rfl (x := (0 : Int32)) ?o41 rfl rfl rfl (List.mem_singleton.mpr rfl) dX9_act_50 (fun H locs h_33 eh_33 hW hT hs => ?_)
      case o40 => decide
      case o41 => decide
      replace f_x_5 := (hs.o gx trivial rfl).2.trans f_x_5
      replace f_x_0 := (hs.o gx trivial rfl).2.trans f_x_0
      replace f_x_4 := (hs.o gx trivial rfl).2.trans f_x_4
      replace f_x_6 := (hs.o gx trivial rfl).1.trans f_x_6
      replace po_15 := (hs.o gq_9 trivial rfl).1.trans po_15
      replace po_16 := (hs.o gq_9 trivial rfl).1.trans po_16
      replace fq_20 := (hs.o gq_9 trivial rfl).2.trans fq_20
      replace fq_22 := (hs.o gq_9 trivial rfl).2.trans fq_22
      replace fq_24 := (hs.o gx trivial rfl).2.trans fq_24
      replace fw_30 := (hs.o gq_9 trivial rfl).1.trans fw_30
      replace pf_x_6 : ∀ j : Nat, (j : Int) < (h_33.2.1 x 6).toInt → h_33.2.2 qa j ≠ none := by
        intro j hj; rw [(hs.o gx trivial rfl).1] at hj; rw [(hs.a gqa rfl j).2]; exact pf_x_6 j hj
      replace hRA : hv_RA h_33 qa w a0.toInt A := hv_RA_S hs hTo gqa gw tt_43 tt_0 rfl rfl rfl rfl rfl rfl ?o42 hRA
      case o42 => omega
      replace af_qt : h_33.2.1 qt = tf := (funext fun j => (hs.a gqt rfl j).1).trans af_qt
      replace fw_31 : h_33.2.1 q_22 = w_31 := (funext fun j => (hs.a gq_22 rfl j).1).trans fw_31
      replace fw_32 : h_33.2.1 q_20 = w_32 := (funext fun j => (hs.a gq_20 rfl j).1).trans fw_32
      replace hM := hM.tr (hs.mono ?o43)
      case o43 => decide
      replace gx := gx.S hs
      replace gqa := gqa.S hs
      replace gqt := gqt.S hs
      replace gw := gw.S hs
      replace gq_9 := gq_9.S hs
      replace gq_20 := gq_20.S hs
      replace gq_22 := gq_22.S hs
      replace gq_24 := gq_24.S hs
      have f_34 : h_33.2.1 x 1 = (0 : Int32) := ?o44
      case o44 =>
        rw [eh_33]
        exact hx_pi_at _ _ _ _
      refine lv_iload_n hx hb dX9_act_53 rfl (lv_at hl 0 rfl) ?_
      refine hb_if_eq (zx := r_27.toInt) (tgt := 62) hx hb rfl dX9_act_54 ?o45 (fun c_35 => ?_) (fun c_35 => ?_)
      case o45 => decide
      · skip
        obtain ⟨qa9, hr0⟩ := hv_AR_0 hra (by omega)
        have hT := hx_T_rtA hT gq_20 tt_127 tt_11 rfl
        have hW := hx_W_rtA hW gq_20 tt_127 tt_11
        have hM := hx_S_rt2 (t := 11) hM (fun a ha => po_18N a (hx_X_m.mpr ⟨(hMb.1 a ha).1, nq_q_9 a ha⟩))
        have gx := hx_rt_o (t := 11) gx (gx.ne gq_20 ?o46)
        case o46 => decide
        have gqa := hx_rt_o (t := 11) gqa (gqa.ne gq_20 ?o47)
        case o47 => decide
        have gqt := hx_rt_o (t := 11) gqt (gqt.ne gq_20 ?o48)
        case o48 => decide
        have gw := hx_rt_o (t := 11) gw (gw.ne gq_20 ?o49)
        case o49 => decide
        have gq_9 := hx_rt_o (t := 11) gq_9 (gq_9.ne gq_20 ?o50)
        case o50 => decide
        have gq_22 := hx_rt_o (t := 11) gq_22 (gq_22.ne gq_20 ?o51)
        case o51 => decide
        have gq_24 := hx_rt_o (t := 11) gq_24 (gq_24.ne gq_20 ?o52)
        case o52 => decide
        have gq_20 := hx_rt_g (t := 11) gq_20
        have f_x_5 : (hx_rt h_33 q_20 11).2.2 x 5 = some qa := f_x_5
        have f_x_0 : (hx_rt h_33 q_20 11).2.2 x 0 = some qt := f_x_0
        have f_x_4 : (hx_rt h_33 q_20 11).2.2 x 4 = some w := f_x_4
        have f_x_6 : (hx_rt h_33 q_20 11).2.1 x 6 = a0 := f_x_6
        have po_15 : (hx_rt h_33 q_20 11).2.1 q_9 0 = a0 := po_15
        have po_16 : (hx_rt h_33 q_20 11).2.1 q_9 1 = i1 := po_16
        have fq_20 : (hx_rt h_33 q_20 11).2.2 q_9 2 = some q_20 := fq_20
        have fq_22 : (hx_rt h_33 q_20 11).2.2 q_9 3 = some q_22 := fq_22
        have fq_24 : (hx_rt h_33 q_20 11).2.2 x 3 = some q_24 := fq_24
        have fw_30 : (hx_rt h_33 q_20 11).2.1 q_9 4 = w_30 := fw_30
        have f_34 : (hx_rt h_33 q_20 11).2.1 x 1 = (0 : Int32) := f_34
        have af_qt : (hx_rt h_33 q_20 11).2.1 qt = tf := af_qt
        have fw_31 : (hx_rt h_33 q_20 11).2.1 q_22 = w_31 := fw_31
        have fw_32 : (hx_rt h_33 q_20 11).2.1 q_20 = w_32 := fw_32
        have pf_x_6 : ∀ j : Nat, (j : Int) < ((hx_rt h_33 q_20 11).2.1 x 6).toInt → (hx_rt h_33 q_20 11).2.2 qa j ≠ none := pf_x_6
        have hRA : hv_RA (hx_rt h_33 q_20 11) qa w a0.toInt A := hRA
        generalize eh : (hx_rt h_33 q_20 11) = h_36 at hT hW hM gx gqa gqt gw gq_9 gq_20 gq_22 gq_24 f_x_5 f_x_0 f_x_4 f_x_6 po_15 po_16 fq_20 fq_22 fq_24 fw_30 f_34 af_qt fw_31 fw_32 pf_x_6 hRA
        have hT := hx_T_rtA hT gq_22 tt_128 tt_12 rfl
        have hW := hx_W_rtA hW gq_22 tt_128 tt_12
        have hM := hx_S_rt2 (t := 12) hM (fun a ha => po_19N a (hx_X_m.mpr ⟨(hMb.1 a ha).1, nq_q_9 a ha⟩))
        have gx := hx_rt_o (t := 12) gx (gx.ne gq_22 ?o53)
        case o53 => decide
        have gqa := hx_rt_o (t := 12) gqa (gqa.ne gq_22 ?o54)
        case o54 => decide
        have gqt := hx_rt_o (t := 12) gqt (gqt.ne gq_22 ?o55)
        case o55 => decide
        have gw := hx_rt_o (t := 12) gw (gw.ne gq_22 ?o56)
        case o56 => decide
        have gq_9 := hx_rt_o (t := 12) gq_9 (gq_9.ne gq_22 ?o57)
        case o57 => decide
        have gq_20 := hx_rt_o (t := 12) gq_20 (gq_20.ne gq_22 ?o58)
        case o58 => decide
        have gq_24 := hx_rt_o (t := 12) gq_24 (gq_24.ne gq_22 ?o59)
        case o59 => decide
        have gq_22 := hx_rt_g (t := 12) gq_22
        have f_x_5 : (hx_rt h_36 q_22 12).2.2 x 5 = some qa := f_x_5
        have f_x_0 : (hx_rt h_36 q_22 12).2.2 x 0 = some qt := f_x_0
        have f_x_4 : (hx_rt h_36 q_22 12).2.2 x 4 = some w := f_x_4
        have f_x_6 : (hx_rt h_36 q_22 12).2.1 x 6 = a0 := f_x_6
        have po_15 : (hx_rt h_36 q_22 12).2.1 q_9 0 = a0 := po_15
        have po_16 : (hx_rt h_36 q_22 12).2.1 q_9 1 = i1 := po_16
        have fq_20 : (hx_rt h_36 q_22 12).2.2 q_9 2 = some q_20 := fq_20
        have fq_22 : (hx_rt h_36 q_22 12).2.2 q_9 3 = some q_22 := fq_22
        have fq_24 : (hx_rt h_36 q_22 12).2.2 x 3 = some q_24 := fq_24
        have fw_30 : (hx_rt h_36 q_22 12).2.1 q_9 4 = w_30 := fw_30
        have f_34 : (hx_rt h_36 q_22 12).2.1 x 1 = (0 : Int32) := f_34
        have af_qt : (hx_rt h_36 q_22 12).2.1 qt = tf := af_qt
        have fw_31 : (hx_rt h_36 q_22 12).2.1 q_22 = w_31 := fw_31
        have fw_32 : (hx_rt h_36 q_22 12).2.1 q_20 = w_32 := fw_32
        have pf_x_6 : ∀ j : Nat, (j : Int) < ((hx_rt h_36 q_22 12).2.1 x 6).toInt → (hx_rt h_36 q_22 12).2.2 qa j ≠ none := pf_x_6
        have hRA : hv_RA (hx_rt h_36 q_22 12) qa w a0.toInt A := hRA
        generalize eh : (hx_rt h_36 q_22 12) = h_37 at hT hW hM gx gqa gqt gw gq_9 gq_20 gq_22 gq_24 f_x_5 f_x_0 f_x_4 f_x_6 po_15 po_16 fq_20 fq_22 fq_24 fw_30 f_34 af_qt fw_31 fw_32 pf_x_6 hRA
        have hF : hx_F (fun k f => hx_o L_25 h_37 f (h_37.2.1 q_9 k) (h_37.2.2 q_9 k)) T_f0 0 := ⟨hx_oi po_15 ⟨?o60, ?o61⟩, hx_oi po_16 ⟨?o62, ?o63⟩, hx_or fq_20 gq_20 ?o64, hx_or fq_22 gq_22 ?o65, hx_oi fw_30 ⟨?o66, ?o67⟩, trivial⟩
        case o60 => omega
        case o61 => omega
        case o62 => omega
        case o63 => omega
        case o64 => decide
        case o65 => decide
        case o66 => omega
        case o67 => omega
        have hT := hx_T_rt2 hT gq_9 tt_0 rfl (hx_F_all hF)
        have hW := hx_W_rt hW gq_9 tt_129 tt_0 (fun _ _ => rfl)
        have hM := hx_S_rt2 (t := 0) hM nq_q_9
        have gx := hx_rt_o (t := 0) gx (gx.ne gq_9 ?o68)
        case o68 => decide
        have gqa := hx_rt_o (t := 0) gqa (gqa.ne gq_9 ?o69)
        case o69 => decide
        have gqt := hx_rt_o (t := 0) gqt (gqt.ne gq_9 ?o70)
        case o70 => decide
        have gw := hx_rt_o (t := 0) gw (gw.ne gq_9 ?o71)
        case o71 => decide
        have gq_20 := hx_rt_o (t := 0) gq_20 (gq_20.ne gq_9 ?o72)
        case o72 => decide
        have gq_22 := hx_rt_o (t := 0) gq_22 (gq_22.ne gq_9 ?o73)
        case o73 => decide
        have gq_24 := hx_rt_o (t := 0) gq_24 (gq_24.ne gq_9 ?o74)
        case o74 => decide
        have gq_9 := hx_rt_g (t := 0) gq_9
        have f_x_5 : (hx_rt h_37 q_9 0).2.2 x 5 = some qa := f_x_5
        have f_x_0 : (hx_rt h_37 q_9 0).2.2 x 0 = some qt := f_x_0
        have f_x_4 : (hx_rt h_37 q_9 0).2.2 x 4 = some w := f_x_4
        have f_x_6 : (hx_rt h_37 q_9 0).2.1 x 6 = a0 := f_x_6
        have po_15 : (hx_rt h_37 q_9 0).2.1 q_9 0 = a0 := po_15
        have po_16 : (hx_rt h_37 q_9 0).2.1 q_9 1 = i1 := po_16
        have fq_20 : (hx_rt h_37 q_9 0).2.2 q_9 2 = some q_20 := fq_20
        have fq_22 : (hx_rt h_37 q_9 0).2.2 q_9 3 = some q_22 := fq_22
        have fq_24 : (hx_rt h_37 q_9 0).2.2 x 3 = some q_24 := fq_24
        have fw_30 : (hx_rt h_37 q_9 0).2.1 q_9 4 = w_30 := fw_30
        have f_34 : (hx_rt h_37 q_9 0).2.1 x 1 = (0 : Int32) := f_34
        have af_qt : (hx_rt h_37 q_9 0).2.1 qt = tf := af_qt
        have fw_31 : (hx_rt h_37 q_9 0).2.1 q_22 = w_31 := fw_31
        have fw_32 : (hx_rt h_37 q_9 0).2.1 q_20 = w_32 := fw_32
        have pf_x_6 : ∀ j : Nat, (j : Int) < ((hx_rt h_37 q_9 0).2.1 x 6).toInt → (hx_rt h_37 q_9 0).2.2 qa j ≠ none := pf_x_6
        have hRA : hv_RA (hx_rt h_37 q_9 0) qa w a0.toInt A := hRA
        generalize eh : (hx_rt h_37 q_9 0) = h_38 at hT hW hM gx gqa gqt gw gq_9 gq_20 gq_22 gq_24 f_x_5 f_x_0 f_x_4 f_x_6 po_15 po_16 fq_20 fq_22 fq_24 fw_30 f_34 af_qt fw_31 fw_32 pf_x_6 hRA
        refine lv_aload_n hx hb dX9_act_62 rfl (lv_at hl 2 rfl) ?_
        refine hk_getr hx hb hts hC_9 hown hW gx tt_9 5 ?o75 rfl kw_369 ⟨rfl, rfl, rfl⟩ f_x_5 dX9_act_63 ?_
        case o75 => decide
        refine lv_aload_n hx hb dX9_act_66 rfl (lv_at hl 2 rfl) ?_
        refine hk_geti hx hb hts hC_9 hown hW gx tt_9 6 ?o76 rfl kw_370 ⟨rfl, rfl, rfl⟩ f_x_6 dX9_act_67 ?_
        case o76 => decide
        refine lv_aload_n hx hb dX9_act_70 rfl (lv_at hl 1 rfl) ?_
        obtain ⟨x9, sn9, o9, ho9, hs9⟩ := hv_AR_2 hra (by omega)
        have haq9 : hv_AQ h_38 q_9 a0.toInt (i1.toInt, hv_rC w_32, o9) := ⟨by rw [po_15], by rw [po_16], fun t ht => by obtain rfl : q_20 = t := Option.some.inj (fq_20.symm.trans ht); rw [fw_32], fun p hp => by obtain rfl : q_22 = p := Option.some.inj (fq_22.symm.trans hp); rw [fw_31, fw_30]; exact ho9⟩
        have hRAO9 := hRA
        have hTO9 := hT
        have gqaO9 := gqa
        have gwO9 := gw
        have gnO9 := gq_9
        have hTo := hT
        have pf_x_6O := pf_x_6
        refine hx_aast hx hb hW hT (hx_S.rf (M := [(43, 0)])) gqa tt_43 rfl gq_9 tt_0 rfl ?o77 ⟨?o78, ?o79⟩ (List.mem_singleton.mpr rfl) dX9_act_71 (fun H locs h_39 eh_39 hW hT hs => ?_)
        case o77 => decide
        case o78 => omega
        case o79 => omega
        replace f_x_5 := (hs.o gx trivial rfl).2.trans f_x_5
        replace f_x_0 := (hs.o gx trivial rfl).2.trans f_x_0
        replace f_x_4 := (hs.o gx trivial rfl).2.trans f_x_4
        replace f_x_6 := (hs.o gx trivial rfl).1.trans f_x_6
        replace po_15 := (hs.o gq_9 trivial rfl).1.trans po_15
        replace po_16 := (hs.o gq_9 trivial rfl).1.trans po_16
        replace fq_20 := (hs.o gq_9 trivial rfl).2.trans fq_20
        replace fq_22 := (hs.o gq_9 trivial rfl).2.trans fq_22
        replace fq_24 := (hs.o gx trivial rfl).2.trans fq_24
        replace fw_30 := (hs.o gq_9 trivial rfl).1.trans fw_30
        replace f_34 := (hs.o gx trivial rfl).1.trans f_34
        replace af_qt : h_39.2.1 qt = tf := (funext fun j => (hs.a gqt rfl j).1).trans af_qt
        replace fw_31 : h_39.2.1 q_22 = w_31 := (funext fun j => (hs.a gq_22 rfl j).1).trans fw_31
        replace fw_32 : h_39.2.1 q_20 = w_32 := (funext fun j => (hs.a gq_20 rfl j).1).trans fw_32
        replace hM := hM.tr (hs.mono ?o80)
        case o80 => decide
        replace gx := gx.S hs
        replace gqa := gqa.S hs
        replace gqt := gqt.S hs
        replace gw := gw.S hs
        replace gq_9 := gq_9.S hs
        replace gq_20 := gq_20.S hs
        replace gq_22 := gq_22.S hs
        replace gq_24 := gq_24.S hs
        have pf_x_6 : ∀ j : Nat, (j : Int) < (h_39.2.1 x 6).toInt → h_39.2.2 qa j ≠ none := hx_pfk pf_x_6O eh_39
        have px_40 : ∀ j : Nat, (j : Int) < a0.toInt + 1 → h_39.2.2 qa j ≠ none := hx_pfx pf_x_6O (by first | exact f_x_6 | exact ((hs.o gx trivial rfl).1.symm.trans f_x_6)) (by omega) eh_39
        have hRA : hv_RA h_39 qa w (a0.toInt + 1) (fun k => if k = a0.toInt.toNat + 1 then (i1.toInt, hv_rC w_32, o9) else A k) := hv_RA_p hRAO9 hTO9 gqaO9 gwO9 gnO9 tt_43 ?o81 haq9 eh_39 ?o82 ?o83 ?o84
        case o81 => decide
        case o82 => omega
        case o83 => omega
        case o84 => omega
        refine lv_aload_n hx hb dX9_act_72 rfl (lv_at hl 2 rfl) ?_
        refine lv_dup hx hb dX9_act_73 rfl ?_
        refine hk_geti hx hb hts hC_9 hown hW gx tt_9 6 ?o85 rfl kw_370 ⟨rfl, rfl, rfl⟩ f_x_6 dX9_act_74 ?_
        case o85 => decide
        refine lv_iconst (v := 1) hx hb dX9_act_77 ?o86 ?_
        case o86 => decide
        refine lv_iadd hx hb dX9_act_78 ?_
        have rg_41 := i32_r a0
        refine lv_topi (fun x_42 ex_42 => ?_)
        have zx_42 : x_42.toInt = a0.toInt + 1 := ?o87
        case o87 =>
          rw [ex_42]
          refine i32_add rfl ?o88 ?o89 ?o90
          case o88 => decide
          case o89 => omega
          case o90 => omega
        have hTo := hT
        refine hx_puti hx hb hts hC_9 hown hW hT (hx_S.rf (M := [(9, 6)])) gx tt_9 6 ?o91 rfl kw_370 ⟨rfl, rfl, rfl⟩ rfl (x := x_42) ⟨?o92, ?o93⟩ rfl rfl rfl (List.mem_singleton.mpr rfl) dX9_act_79 (fun H locs h_43 eh_43 hW hT hs => ?_)
        case o91 => decide
        case o92 => omega
        case o93 => omega
        replace px_40 : ∀ j : Nat, (j : Int) < a0.toInt + 1 → h_43.2.2 qa j ≠ none := fun j hj => by rw [(hs.a gqa rfl j).2]; exact px_40 j hj
        replace f_x_5 := (hs.o gx trivial rfl).2.trans f_x_5
        replace f_x_0 := (hs.o gx trivial rfl).2.trans f_x_0
        replace f_x_4 := (hs.o gx trivial rfl).2.trans f_x_4
        replace po_15 := (hs.o gq_9 trivial rfl).1.trans po_15
        replace po_16 := (hs.o gq_9 trivial rfl).1.trans po_16
        replace fq_20 := (hs.o gq_9 trivial rfl).2.trans fq_20
        replace fq_22 := (hs.o gq_9 trivial rfl).2.trans fq_22
        replace fq_24 := (hs.o gx trivial rfl).2.trans fq_24
        replace fw_30 := (hs.o gq_9 trivial rfl).1.trans fw_30
        replace f_34 := (hs.o gx trivial rfl).1.trans f_34
        replace hRA : hv_RA h_43 qa w (a0.toInt + 1) (fun k => if k = a0.toInt.toNat + 1 then (i1.toInt, hv_rC w_32, o9) else A k) := hv_RA_S hs hTo gqa gw tt_43 tt_0 rfl rfl rfl rfl rfl rfl ?o94 hRA
        case o94 => omega
        replace af_qt : h_43.2.1 qt = tf := (funext fun j => (hs.a gqt rfl j).1).trans af_qt
        replace fw_31 : h_43.2.1 q_22 = w_31 := (funext fun j => (hs.a gq_22 rfl j).1).trans fw_31
        replace fw_32 : h_43.2.1 q_20 = w_32 := (funext fun j => (hs.a gq_20 rfl j).1).trans fw_32
        replace hM := hM.tr (hs.mono ?o95)
        case o95 => decide
        replace gx := gx.S hs
        replace gqa := gqa.S hs
        replace gqt := gqt.S hs
        replace gw := gw.S hs
        replace gq_9 := gq_9.S hs
        replace gq_20 := gq_20.S hs
        replace gq_22 := gq_22.S hs
        replace gq_24 := gq_24.S hs
        have f_44 : h_43.2.1 x 6 = x_42 := ?o96
        case o96 =>
          rw [eh_43]
          exact hx_pi_at _ _ _ _
        have pf_45 : ∀ j : Nat, (j : Int) < (h_43.2.1 x 6).toInt → h_43.2.2 qa j ≠ none := fun j hj => px_40 j (by rw [f_44] at hj; omega)
        refine lv_aload_n hx hb dX9_act_82 rfl (lv_at hl 1 rfl) ?_
        refine hk_geti hx hb hts hC_0 hown hW gq_9 tt_0 0 ?o97 rfl kw_163 ⟨rfl, rfl, rfl⟩ po_15 dX9_act_83 ?_
        case o97 => decide
        have zo_0 : (0 : Int32).toInt = 0 := ?o98
        case o98 => decide
        refine W.widen (k := 3) (n := 179) (Nat.le_of_ble_eq_true rfl) (Nat.le_of_ble_eq_true rfl) ?_
        refine hx_reti hx hb hr hlk hW ⟨⟨x_42, (0 : Int32), f_44, f_34, ⟨(Or.inr (Or.inr ⟨?o99, ?o100, ?o101, ⟨_, hr0⟩, ?o102⟩)), (fun k => if k = a0.toInt.toNat + 1 then (i1.toInt, hv_rC w_32, o9) else A k), Or.inr ⟨?o103, _, _, _, _, hs9, rfl⟩, (by rw [show x_42.toInt = a0.toInt + 1 by omega]; exact hRA)⟩⟩, hT, hM, pf_45⟩ dX9_act_86
        case o99 => omega
        case o100 => decide
        case o101 => omega
        case o102 => omega
        case o103 => omega
      · skip
        have hr1 := hv_AR_1 hra ?o104
        case o104 => omega
        refine lv_bipush (v := -2) hx hb dX9_act_57 ?o105 ?_
        case o105 => decide
        refine lv_iload_n hx hb dX9_act_59 rfl (lv_at hl 0 rfl) ?_
        refine lv_isub hx hb dX9_act_60 ?_
        have rg_46 := i32_r r_27
        refine lv_topi (fun x_47 ex_47 => ?_)
        have zo_0 : (0 : Int32).toInt = 0 := ?o106
        case o106 => decide
        refine W.widen (k := 3) (n := 179) (Nat.le_of_ble_eq_true rfl) (Nat.le_of_ble_eq_true rfl) ?_
        refine hx_reti hx hb hr hlk hW ⟨⟨a0, (0 : Int32), f_x_6, f_34, ⟨(Or.inr (Or.inl ⟨?o107, ?o108, ?o109, _, hr1.1, hr1.2, ex_47⟩)), A, Or.inl ⟨?o110, rfl⟩, hRA⟩⟩, hT, hM, pf_x_6⟩ dX9_act_61
        case o107 => omega
        case o108 => decide
        case o109 => omega
        case o110 => omega
    · skip
      replace hr_6 := hr_6.resolve_right (fun z9 => absurd (c_7.symm.trans z9.1) ?o111)
      case o111 => decide
      replace hr_6 := hr_6.2
      refine lv_iconst (v := -1) hx hb dX9_act_16 ?o112 ?_
      case o112 => decide
      refine W.widen (k := 3) (n := 179) (Nat.le_of_ble_eq_true rfl) (Nat.le_of_ble_eq_true rfl) ?_
      refine hx_reti hx hb hr hlk hW ⟨⟨a0, t0, f_x_6, f_x_1, ⟨(Or.inl ⟨?o113, rfl, ?o114, ?o115⟩), A, Or.inl ⟨?o116, rfl⟩, hRA⟩⟩, hT, hM, pf_x_6⟩ dX9_act_17
      case o113 => omega
      case o114 => omega
      case o115 => omega
      case o116 => omega
end
section
set_option maxHeartbeats 4000000 in
set_option maxRecDepth 100000 in
theorem t_X10_four_v (l : Launch) (dC : Nat → ClassId) (dI : Nat → Nat → Nat) (dA : Nat → ClassId) (L : List Nat) (h : hx_h) (sz : Nat) (x : Nat) (i1 : Int32) (hT : hx_T T_tb L h) (gx : hx_g L h x 10) (qt : Nat) (gqt : hx_g L h qt 53) (f_x_6 : h.2.2 x 6 = some qt) (tf : Nat → Int32) (af_qt : h.2.1 qt = tf) (t0 : Int32) (f_x_7 : h.2.1 x 7 = t0) (ht0 : t0.toInt ≤ 396) : Met l yX10_four (Cond.code yX10_four cX10_four 3 none :: hx_all) ({ frames := 0, cells := 0, slots := 0, locals := 0 }) (va_Pc [.ref x, .int i1] (hx_B T_tb (P_ty dA) (dC, dI) vwCl L h sz)) (va_Qv (fun (u : List Nat × hx_h) => (∃ (t1 : Int32) (tf1 : Nat → Int32), u.2.2.1 x 7 = t1 ∧ u.2.2.1 qt = tf1 ∧ (t1.toInt = t0.toInt + 4 ∧ tf1 = hv_FD tf t0.toInt.toNat i1 4)) ∧ hx_T T_tb u.1 u.2 ∧ hx_S T_tb [(10, 7), (53, 0)] L h u.1 u.2) (hx_E T_tb (P_ty dA) (dC, dI) vwCl (hx_A L sz)) (hx_A L sz)) 0 0 (hx_A L sz) := by
  refine hx_met (lv := [(0, .ref x), (1, .int i1)]) (by decide +kernel) rfl (Nat.le_of_ble_eq_true rfl) rfl ?_
  intro p e s m below meth c hx hb hml hr hlk hts0 hown hin hsz hW ls hl
  have hts : ∀ w ∈ hx_all, w.before _ s = true := fun w hw => hts0 w (List.mem_cons_of_mem _ hw)
  have hown : s.vm.findClass "SmallCourtModel" = some m.cls := hown
  have hM : hx_S T_tb [(10, 7), (53, 0)] L h L h := hx_S.rf
  have b_t0 := hT.gi gx tt_10 (k := 7) rfl
  rw [f_x_7] at b_t0
  have b_t0 : 0 ≤ t0.toInt ∧ t0.toInt ≤ 400 := b_t0
  refine lv_bipush (v := 24) hx hb dX10_four_0 ?o0 ?_
  case o0 => decide
  refine lv_istore_n (lv' := [(2, .int (24 : Int32)), (0, .ref x), (1, .int i1)]) hx hb dX10_four_2 rfl hl ?o1 rfl (fun ls hl => ?_)
  case o1 => decide
  have loop3 : ∀ (n3 : Nat) (iv3_2 fw3_x_7 : Int32) (ia3_qt : Nat → Int32) (H : Heap) (locs : List Loc) (hL1 : List Nat) (hl1 : hx_h), -8 ≤ iv3_2.toInt → iv3_2.toInt ≤ 24 → 0 ≤ fw3_x_7.toInt → fw3_x_7.toInt ≤ 400 → (8 * fw3_x_7.toInt = 8 * t0.toInt + 24 - iv3_2.toInt) → (ia3_qt = hv_FD tf t0.toInt.toNat i1 (fw3_x_7.toInt - t0.toInt).toNat) → (t0.toInt ≤ fw3_x_7.toInt) → ∀ (ls : Array Slot), iv3_2.toInt + 8 < (n3 : Int) → hx_W T_tb (P_ty dA) (dC, dI) vwCl (hx_A L sz) s.heap hL1 hl1 s H locs → hx_T T_tb hL1 hl1 → hx_S T_tb [(10, 7), (53, 0)] L h hL1 hl1 → hl1.2.1 x 7 = fw3_x_7 → hl1.2.1 qt = ia3_qt → lv_has ls 3 [(2, .int iv3_2), (0, .ref x), (1, .int i1)] → W p l e ({ frames := 0, cells := 0, slots := 0, locals := 0 }) s m ([.ref x, .int i1] : List Value).toArray below meth c H locs 0 0 (MQ below (va_Qv (fun (u : List Nat × hx_h) => (∃ (t1 : Int32) (tf1 : Nat → Int32), u.2.2.1 x 7 = t1 ∧ u.2.2.1 qt = tf1 ∧ (t1.toInt = t0.toInt + 4 ∧ tf1 = hv_FD tf t0.toInt.toNat i1 4)) ∧ hx_T T_tb u.1 u.2 ∧ hx_S T_tb [(10, 7), (53, 0)] L h u.1 u.2) (hx_E T_tb (P_ty dA) (dC, dI) vwCl (hx_A L sz)) (hx_A L sz)) ([.ref x, .int i1] : List Value).toArray s 0 0 (hx_A L sz)) (F0 m 3 ls []) := by
    intro n3
    induction n3 with
    | zero => intro iv3_2 fw3_x_7 ia3_qt H locs hL1 hl1 bliv3_2 buiv3_2 blfw3_x_7 bufw3_x_7 vi3_0 vi3_1 vi3_2 ls hn3; exfalso; omega
    | succ n3 ih3 =>
      intro iv3_2 fw3_x_7 ia3_qt H locs hL1 hl1 bliv3_2 buiv3_2 blfw3_x_7 bufw3_x_7 vi3_0 vi3_1 vi3_2 ls hn3 hW hT hM ffw3_x_7 nia3_qt hl
      refine lv_iload_n hx hb dX10_four_3 rfl (lv_at hl 0 rfl) ?_
      refine hb_if_lt (zx := iv3_2.toInt) (tgt := 36) hx hb rfl dX10_four_4 ?o2 (fun c_1 => ?_) (fun c_1 => ?_)
      case o2 => decide
      · skip
        refine hx_retv hx hb hr hlk hW ⟨⟨fw3_x_7, ia3_qt, ffw3_x_7, nia3_qt, ⟨?o3, (by rw [vi3_1]; congr 1; omega)⟩⟩, hT, hM⟩ dX10_four_36
        case o3 => omega
      · skip
        refine lv_aload_n hx hb dX10_four_7 rfl (lv_at hl 1 rfl) ?_
        refine hk_getr hx hb hts hC_10 hown hW (gx.S hM) tt_10 6 ?o4 rfl kw_1149 ⟨rfl, rfl, rfl⟩ ((hM.o gx trivial rfl).2.trans f_x_6) dX10_four_8 ?_
        case o4 => decide
        refine lv_aload_n hx hb dX10_four_11 rfl (lv_at hl 1 rfl) ?_
        refine hk_geti hx hb hts hC_10 hown hW (gx.S hM) tt_10 7 ?o5 rfl kw_1150 ⟨rfl, rfl, rfl⟩ ffw3_x_7 dX10_four_12 ?_
        case o5 => decide
        refine lv_iload_n hx hb dX10_four_15 rfl (lv_at hl 2 rfl) ?_
        refine lv_iload_n hx hb dX10_four_16 rfl (lv_at hl 0 rfl) ?_
        refine lv_ishr hx hb dX10_four_17 ?_
        refine lv_topi (fun x_2 ex_2 => ?_)
        refine lv_i2b hx hb dX10_four_18 rfl ?_
        refine lv_topi (fun x_3 ex_3 => ?_)
        have nia3_qtO := nia3_qt
        refine hx_bast hx hb hW hT (hx_S.rf (M := [(53, 0)])) (gqt.S hM) tt_53 rfl ⟨?o6, ?o7⟩ (y := x_3) (hv_nb8 ex_3) (hv_nb9 ex_3) (List.mem_singleton.mpr rfl) dX10_four_19 (fun H locs h_4 eh_4 hW hT hs => ?_)
        case o6 => omega
        case o7 => omega
        replace ffw3_x_7 := (hs.o (gx.S hM) trivial rfl).1.trans ffw3_x_7
        replace hM := hM.tr (hs.mono ?o8)
        case o8 => decide
        obtain ⟨fa_5, dfa_5⟩ : ∃ g : Nat → Int32, g = hx_up ia3_qt fw3_x_7.toNatClampNeg x_3 := ⟨_, rfl⟩
        have nfa_5 : h_4.2.1 qt = fa_5 := ?o9
        case o9 =>
          rw [eh_4, dfa_5, ← nia3_qtO]
          exact hx_pi_fun _ _ _ _
        refine lv_aload_n hx hb dX10_four_20 rfl (lv_at hl 1 rfl) ?_
        refine lv_dup hx hb dX10_four_21 rfl ?_
        refine hk_geti hx hb hts hC_10 hown hW (gx.S hM) tt_10 7 ?o10 rfl kw_1150 ⟨rfl, rfl, rfl⟩ ffw3_x_7 dX10_four_22 ?_
        case o10 => decide
        refine lv_iconst (v := 1) hx hb dX10_four_25 ?o11 ?_
        case o11 => decide
        refine lv_iadd hx hb dX10_four_26 ?_
        have rg_6 := i32_r fw3_x_7
        refine lv_topi (fun x_7 ex_7 => ?_)
        have zx_7 : x_7.toInt = fw3_x_7.toInt + 1 := ?o12
        case o12 =>
          rw [ex_7]
          refine i32_add rfl ?o13 ?o14 ?o15
          case o13 => decide
          case o14 => omega
          case o15 => omega
        refine hx_puti hx hb hts hC_10 hown hW hT (hx_S.rf (M := [(10, 7)])) (gx.S hM) tt_10 7 ?o16 rfl kw_1150 ⟨rfl, rfl, rfl⟩ rfl (x := x_7) ⟨?o17, ?o18⟩ rfl rfl rfl (List.mem_singleton.mpr rfl) dX10_four_27 (fun H locs h_8 eh_8 hW hT hs => ?_)
        case o16 => decide
        case o17 => omega
        case o18 => omega
        replace nfa_5 : h_8.2.1 qt = fa_5 := (funext fun j => (hs.a (gqt.S hM) rfl j).1).trans nfa_5
        replace hM := hM.tr (hs.mono ?o19)
        case o19 => decide
        have f_9 : h_8.2.1 x 7 = x_7 := ?o20
        case o20 =>
          rw [eh_8]
          exact hx_pi_at _ _ _ _
        obtain ⟨x_10, ex_10⟩ : ∃ y : Int32, y = iv3_2 + Int32.ofInt (-8) := ⟨_, rfl⟩
        have rg_11 := i32_r iv3_2
        have zx_10 : x_10.toInt = iv3_2.toInt + (-8) := ?o21
        case o21 =>
          rw [ex_10]
          refine i32_add rfl ?o22 ?o23 ?o24
          case o22 => decide
          case o23 => omega
          case o24 => omega
        refine lv_iinc (v := x_10) (lv' := [(2, .int x_10), (0, .ref x), (1, .int i1)]) hx hb dX10_four_30 hl (k := 0) rfl ex_10.symm ?o25 rfl (fun ls hl => ?_)
        case o25 => decide
        refine lv_goto (tgt := 3) hx hb dX10_four_33 ?o26 ?_
        case o26 => decide
        refine ih3 x_10 x_7 fa_5 _ _ hL1 h_8 ?o27 ?o28 ?o29 ?o30 ?o31 (hv_FD_s vi3_1 dfa_5 ex_2 ex_3 ?o32 ?o33 ?o34 ?o35 zx_7) ?o36 ls ?o37 hW hT hM f_9 nfa_5 (lv_sub hl [0, 1, 2] rfl)
        case o27 => omega
        case o28 => omega
        case o29 => omega
        case o30 => omega
        case o31 => omega
        case o32 => omega
        case o33 => omega
        case o34 => omega
        case o35 => omega
        case o36 => omega
        case o37 => omega
  have zk_24 : (24 : Int32).toInt = 24 := ?o38
  case o38 => decide
  refine loop3 33 (24 : Int32) t0 tf _ _ L h ?o39 ?o40 ?o41 ?o42 ?o43 (by rw [show (t0.toInt - t0.toInt).toNat = 0 by omega]; rfl) ?o44 ls ?o45 hW hT hM f_x_7 af_qt hl
  case o39 => decide
  case o40 => decide
  case o41 => omega
  case o42 => omega
  case o43 => omega
  case o44 => omega
  case o45 => omega


set_option maxHeartbeats 4000000 in
set_option maxRecDepth 100000 in
theorem t_X10_feed_v (l : Launch) (dC : Nat → ClassId) (dI : Nat → Nat → Nat) (dA : Nat → ClassId) (L : List Nat) (h : hx_h) (sz : Nat) (x : Nat) (i1 : Int32) (i2 : Int32) (i3 : Int32) (i4 : Int32) (i5 : Int32) (hT : hx_T T_tb L h) (gx : hx_g L h x 10) (qt : Nat) (gqt : hx_g L h qt 53) (f_x_6 : h.2.2 x 6 = some qt) (tf : Nat → Int32) (af_qt : h.2.1 qt = tf) (t0 : Int32) (f_x_7 : h.2.1 x 7 = t0) : Met l yX10_feed (Cond.code yX10_feed cX10_feed 6 (some .int) :: hx_all) ({ frames := 1, cells := 0, slots := 0, locals := 22 }) (va_Pc [.ref x, .int i1, .int i2, .int i3, .int i4, .int i5] (hx_B T_tb (P_ty dA) (dC, dI) vwCl L h sz)) (va_Qi (fun (r : Int32) (u : List Nat × hx_h) => (∃ (t1 : Int32) (tf1 : Nat → Int32), u.2.2.1 x 7 = t1 ∧ u.2.2.1 qt = tf1 ∧ (hv_FE tf t0 i1 i2 i3 i4 i5 r t1 tf1)) ∧ hx_T T_tb u.1 u.2 ∧ hx_S T_tb [(10, 7), (53, 0)] L h u.1 u.2) (hx_E T_tb (P_ty dA) (dC, dI) vwCl (hx_A L sz)) (hx_A L sz)) 0 0 (hx_A L sz) := by
  refine hx_met (lv := [(0, .ref x), (1, .int i1), (2, .int i2), (3, .int i3), (4, .int i4), (5, .int i5)]) (by decide +kernel) rfl (Nat.le_of_ble_eq_true rfl) rfl ?_
  intro p e s m below meth c hx hb hml hr hlk hts0 hown hin hsz hW ls hl
  have hts : ∀ w ∈ hx_all, w.before _ s = true := fun w hw => hts0 w (List.mem_cons_of_mem _ hw)
  have hown : s.vm.findClass "SmallCourtModel" = some m.cls := hown
  have hM : hx_S T_tb [(10, 7), (53, 0)] L h L h := hx_S.rf
  have b_t0 := hT.gi gx tt_10 (k := 7) rfl
  rw [f_x_7] at b_t0
  have b_t0 : 0 ≤ t0.toInt ∧ t0.toInt ≤ 400 := b_t0
  refine lv_aload_n hx hb dX10_feed_0 rfl (lv_at hl 0 rfl) ?_
  refine hk_geti hx hb hts hC_10 hown hW (gx.S hM) tt_10 7 ?o0 rfl kw_1150 ⟨rfl, rfl, rfl⟩ f_x_7 dX10_feed_1 ?_
  case o0 => decide
  refine lv_bipush (v := 20) hx hb dX10_feed_4 ?o1 ?_
  case o1 => decide
  refine lv_iadd hx hb dX10_feed_6 ?_
  have rg_1 := i32_r t0
  refine lv_topi (fun x_2 ex_2 => ?_)
  have zx_2 : x_2.toInt = t0.toInt + 20 := ?o2
  case o2 =>
    rw [ex_2]
    refine i32_add rfl ?o3 ?o4 ?o5
    case o3 => decide
    case o4 => omega
    case o5 => omega
  refine lv_sipush (v := 400) hx hb dX10_feed_7 ?o6 ?_
  case o6 => decide
  refine hb_icmp_le (zx := x_2.toInt) (zy := 400) (tgt := 15) hx hb rfl ?o7 dX10_feed_10 ?o8 (fun c_3 => ?_) (fun c_3 => ?_)
  case o7 => decide
  case o8 => decide
  · skip
    refine lv_aload_n hx hb dX10_feed_15 rfl (lv_at hl 0 rfl) ?_
    refine lv_iload_n hx hb dX10_feed_16 rfl (lv_at hl 1 rfl) ?_
    refine hx_gov (hx_runV (As := [.int i1]) (rest := []) ⟨hx, hb, hml, hown, hts⟩ hW (gx.S hM) tt_10 (T := TX10) (N := 98) rfl (t_X10_four_v l dC dI dA L h s.heap.size x i1 hT (gx.S hM) qt (gqt.S hM) ((hM.o gx trivial rfl).2.trans f_x_6) tf af_qt t0 f_x_7 ?o9) (cwV 1 hts (hx_gV kw_1453 kw_1450 kw_1452 kw_52 kw_103) rfl rfl rfl (by decide +kernel) ⟨Nat.le_of_ble_eq_true rfl, Nat.le_of_ble_eq_true rfl⟩) rfl hl.1 rfl (Nat.le_of_ble_eq_true rfl) dX10_feed_17 ⟨Nat.le_of_ble_eq_true rfl, Nat.le_of_ble_eq_true rfl⟩) hW (fun L_4 h_5 H locs p_7 hW => ?_)
    case o9 => omega
    obtain ⟨⟨w_9, w_10, fw_9, fw_10, hr_8⟩, hT, hs⟩ := p_7
    replace hT : hx_T T_tb L_4 h_5 := hT
    replace hs : hx_S T_tb [(10, 7), (53, 0)] L h L_4 h_5 := hs
    replace hM := hM.tr (hs.mono ?o10)
    case o10 => decide
    have fw_9 : h_5.2.1 x 7 = w_9 := fw_9
    have bw_9 := hT.gi (gx.S hM) tt_10 (k := 7) rfl
    rw [fw_9] at bw_9
    have bw_9 : 0 ≤ w_9.toInt ∧ w_9.toInt ≤ 400 := bw_9
    have fw_10 : h_5.2.1 qt = w_10 := fw_10
    refine lv_aload_n hx hb dX10_feed_20 rfl (lv_at hl 0 rfl) ?_
    refine lv_iload_n hx hb dX10_feed_21 rfl (lv_at hl 2 rfl) ?_
    refine hx_gov (hx_runV (As := [.int i2]) (rest := []) ⟨hx, hb, hml, hown, hts⟩ hW (gx.S hM) tt_10 (T := TX10) (N := 98) rfl (t_X10_four_v l dC dI dA L_4 h_5 H.size x i2 hT (gx.S hM) qt (gqt.S hM) ((hM.o gx trivial rfl).2.trans f_x_6) w_10 fw_10 w_9 fw_9 ?o11) (cwV 1 hts (hx_gV kw_1453 kw_1450 kw_1452 kw_52 kw_103) rfl rfl rfl (by decide +kernel) ⟨Nat.le_of_ble_eq_true rfl, Nat.le_of_ble_eq_true rfl⟩) rfl hl.1 rfl (Nat.le_of_ble_eq_true rfl) dX10_feed_22 ⟨Nat.le_of_ble_eq_true rfl, Nat.le_of_ble_eq_true rfl⟩) hW (fun L_11 h_12 H locs p_14 hW => ?_)
    case o11 => omega
    obtain ⟨⟨w_16, w_17, fw_16, fw_17, hr_15⟩, hT, hs⟩ := p_14
    replace hT : hx_T T_tb L_11 h_12 := hT
    replace hs : hx_S T_tb [(10, 7), (53, 0)] L_4 h_5 L_11 h_12 := hs
    replace hM := hM.tr (hs.mono ?o12)
    case o12 => decide
    have fw_16 : h_12.2.1 x 7 = w_16 := fw_16
    have bw_16 := hT.gi (gx.S hM) tt_10 (k := 7) rfl
    rw [fw_16] at bw_16
    have bw_16 : 0 ≤ w_16.toInt ∧ w_16.toInt ≤ 400 := bw_16
    have fw_17 : h_12.2.1 qt = w_17 := fw_17
    refine lv_aload_n hx hb dX10_feed_25 rfl (lv_at hl 0 rfl) ?_
    refine lv_iload_n hx hb dX10_feed_26 rfl (lv_at hl 3 rfl) ?_
    refine hx_gov (hx_runV (As := [.int i3]) (rest := []) ⟨hx, hb, hml, hown, hts⟩ hW (gx.S hM) tt_10 (T := TX10) (N := 98) rfl (t_X10_four_v l dC dI dA L_11 h_12 H.size x i3 hT (gx.S hM) qt (gqt.S hM) ((hM.o gx trivial rfl).2.trans f_x_6) w_17 fw_17 w_16 fw_16 ?o13) (cwV 1 hts (hx_gV kw_1453 kw_1450 kw_1452 kw_52 kw_103) rfl rfl rfl (by decide +kernel) ⟨Nat.le_of_ble_eq_true rfl, Nat.le_of_ble_eq_true rfl⟩) rfl hl.1 rfl (Nat.le_of_ble_eq_true rfl) dX10_feed_27 ⟨Nat.le_of_ble_eq_true rfl, Nat.le_of_ble_eq_true rfl⟩) hW (fun L_18 h_19 H locs p_21 hW => ?_)
    case o13 => omega
    obtain ⟨⟨w_23, w_24, fw_23, fw_24, hr_22⟩, hT, hs⟩ := p_21
    replace hT : hx_T T_tb L_18 h_19 := hT
    replace hs : hx_S T_tb [(10, 7), (53, 0)] L_11 h_12 L_18 h_19 := hs
    replace hM := hM.tr (hs.mono ?o14)
    case o14 => decide
    have fw_23 : h_19.2.1 x 7 = w_23 := fw_23
    have bw_23 := hT.gi (gx.S hM) tt_10 (k := 7) rfl
    rw [fw_23] at bw_23
    have bw_23 : 0 ≤ w_23.toInt ∧ w_23.toInt ≤ 400 := bw_23
    have fw_24 : h_19.2.1 qt = w_24 := fw_24
    refine lv_aload_n hx hb dX10_feed_30 rfl (lv_at hl 0 rfl) ?_
    refine lv_iload hx hb dX10_feed_31 (lv_at hl 4 rfl) ?_
    refine hx_gov (hx_runV (As := [.int i4]) (rest := []) ⟨hx, hb, hml, hown, hts⟩ hW (gx.S hM) tt_10 (T := TX10) (N := 98) rfl (t_X10_four_v l dC dI dA L_18 h_19 H.size x i4 hT (gx.S hM) qt (gqt.S hM) ((hM.o gx trivial rfl).2.trans f_x_6) w_24 fw_24 w_23 fw_23 ?o15) (cwV 1 hts (hx_gV kw_1453 kw_1450 kw_1452 kw_52 kw_103) rfl rfl rfl (by decide +kernel) ⟨Nat.le_of_ble_eq_true rfl, Nat.le_of_ble_eq_true rfl⟩) rfl hl.1 rfl (Nat.le_of_ble_eq_true rfl) dX10_feed_33 ⟨Nat.le_of_ble_eq_true rfl, Nat.le_of_ble_eq_true rfl⟩) hW (fun L_25 h_26 H locs p_28 hW => ?_)
    case o15 => omega
    obtain ⟨⟨w_30, w_31, fw_30, fw_31, hr_29⟩, hT, hs⟩ := p_28
    replace hT : hx_T T_tb L_25 h_26 := hT
    replace hs : hx_S T_tb [(10, 7), (53, 0)] L_18 h_19 L_25 h_26 := hs
    replace hM := hM.tr (hs.mono ?o16)
    case o16 => decide
    have fw_30 : h_26.2.1 x 7 = w_30 := fw_30
    have bw_30 := hT.gi (gx.S hM) tt_10 (k := 7) rfl
    rw [fw_30] at bw_30
    have bw_30 : 0 ≤ w_30.toInt ∧ w_30.toInt ≤ 400 := bw_30
    have fw_31 : h_26.2.1 qt = w_31 := fw_31
    refine lv_aload_n hx hb dX10_feed_36 rfl (lv_at hl 0 rfl) ?_
    refine lv_iload hx hb dX10_feed_37 (lv_at hl 5 rfl) ?_
    refine hx_gov (hx_runV (As := [.int i5]) (rest := []) ⟨hx, hb, hml, hown, hts⟩ hW (gx.S hM) tt_10 (T := TX10) (N := 98) rfl (t_X10_four_v l dC dI dA L_25 h_26 H.size x i5 hT (gx.S hM) qt (gqt.S hM) ((hM.o gx trivial rfl).2.trans f_x_6) w_31 fw_31 w_30 fw_30 ?o17) (cwV 1 hts (hx_gV kw_1453 kw_1450 kw_1452 kw_52 kw_103) rfl rfl rfl (by decide +kernel) ⟨Nat.le_of_ble_eq_true rfl, Nat.le_of_ble_eq_true rfl⟩) rfl hl.1 rfl (Nat.le_of_ble_eq_true rfl) dX10_feed_39 ⟨Nat.le_of_ble_eq_true rfl, Nat.le_of_ble_eq_true rfl⟩) hW (fun L_32 h_33 H locs p_35 hW => ?_)
    case o17 => omega
    obtain ⟨⟨w_37, w_38, fw_37, fw_38, hr_36⟩, hT, hs⟩ := p_35
    replace hT : hx_T T_tb L_32 h_33 := hT
    replace hs : hx_S T_tb [(10, 7), (53, 0)] L_25 h_26 L_32 h_33 := hs
    replace hM := hM.tr (hs.mono ?o18)
    case o18 => decide
    have fw_37 : h_33.2.1 x 7 = w_37 := fw_37
    have bw_37 := hT.gi (gx.S hM) tt_10 (k := 7) rfl
    rw [fw_37] at bw_37
    have bw_37 : 0 ≤ w_37.toInt ∧ w_37.toInt ≤ 400 := bw_37
    have fw_38 : h_33.2.1 qt = w_38 := fw_38
    refine lv_aload_n hx hb dX10_feed_42 rfl (lv_at hl 0 rfl) ?_
    refine hk_geti hx hb hts hC_10 hown hW (gx.S hM) tt_10 7 ?o19 rfl kw_1150 ⟨rfl, rfl, rfl⟩ fw_37 dX10_feed_43 ?_
    case o19 => decide
    refine hx_reti hx hb hr hlk hW ⟨⟨w_37, w_38, fw_37, fw_38, (Or.inr ⟨?o20, rfl, ?o21, hv_F5_e hr_8.2 hr_15.2 hr_22.2 hr_29.2 hr_36.2 ?o22 ?o23 ?o24 ?o25⟩)⟩, hT, hM⟩ dX10_feed_46
    case o20 => omega
    case o21 => omega
    case o22 => omega
    case o23 => omega
    case o24 => omega
    case o25 => omega
  · skip
    refine lv_iconst (v := -1) hx hb dX10_feed_13 ?o26 ?_
    case o26 => decide
    refine hx_reti hx hb hr hlk hW ⟨⟨t0, tf, f_x_7, af_qt, (Or.inl ⟨?o27, rfl, rfl, rfl⟩)⟩, hT, hM⟩ dX10_feed_14
    case o27 => omega


set_option maxHeartbeats 4000000 in
set_option maxRecDepth 100000 in
theorem t_X10_end_v (l : Launch) (dC : Nat → ClassId) (dI : Nat → Nat → Nat) (dA : Nat → ClassId) (L : List Nat) (h : hx_h) (sz : Nat) (x : Nat) (i1 : Int32) (hT : hx_T T_tb L h) (gx : hx_g L h x 10) (t0 : Int32) (f_x_7 : h.2.1 x 7 = t0) : Met l yX10_end (Cond.code yX10_end cX10_end 2 (some .int) :: hx_all) ({ frames := 0, cells := 0, slots := 0, locals := 0 }) (va_Pc [.ref x, .int i1] (hx_B T_tb (P_ty dA) (dC, dI) vwCl L h sz)) (va_Qi (fun (r : Int32) (u : List Nat × hx_h) => (∃ (t1 : Int32), u.2.2.1 x 7 = t1 ∧ (hv_EN i1 t0 r t1)) ∧ hx_T T_tb u.1 u.2 ∧ hx_S T_tb [(10, 7)] L h u.1 u.2) (hx_E T_tb (P_ty dA) (dC, dI) vwCl (hx_A L sz)) (hx_A L sz)) 0 0 (hx_A L sz) := by
  refine hx_met (lv := [(0, .ref x), (1, .int i1)]) (by decide +kernel) rfl (Nat.le_of_ble_eq_true rfl) rfl ?_
  intro p e s m below meth c hx hb hml hr hlk hts0 hown hin hsz hW ls hl
  have hts : ∀ w ∈ hx_all, w.before _ s = true := fun w hw => hts0 w (List.mem_cons_of_mem _ hw)
  have hown : s.vm.findClass "SmallCourtModel" = some m.cls := hown
  have hM : hx_S T_tb [(10, 7)] L h L h := hx_S.rf
  have b_t0 := hT.gi gx tt_10 (k := 7) rfl
  rw [f_x_7] at b_t0
  have b_t0 : 0 ≤ t0.toInt ∧ t0.toInt ≤ 400 := b_t0
  refine lv_iload_n hx hb dX10_end_0 rfl (lv_at hl 1 rfl) ?_
  refine hb_if_lt (zx := i1.toInt) (tgt := 12) hx hb rfl dX10_end_1 ?o0 (fun c_1 => ?_) (fun c_1 => ?_)
  case o0 => decide
  · skip
    refine lv_iconst (v := -1) hx hb dX10_end_12 ?o1 ?_
    case o1 => decide
    refine hx_reti hx hb hr hlk hW ⟨⟨t0, f_x_7, (Or.inl ⟨?o2, rfl, rfl⟩)⟩, hT, hM⟩ dX10_end_13
    case o2 => omega
  · skip
    refine lv_iload_n hx hb dX10_end_4 rfl (lv_at hl 1 rfl) ?_
    refine lv_aload_n hx hb dX10_end_5 rfl (lv_at hl 0 rfl) ?_
    refine hk_geti hx hb hts hC_10 hown hW (gx.S hM) tt_10 7 ?o3 rfl kw_1150 ⟨rfl, rfl, rfl⟩ f_x_7 dX10_end_6 ?_
    case o3 => decide
    refine hb_icmp_le (zx := i1.toInt) (zy := t0.toInt) (tgt := 14) hx hb rfl rfl dX10_end_9 ?o4 (fun c_2 => ?_) (fun c_2 => ?_)
    case o4 => decide
    · skip
      refine lv_aload_n hx hb dX10_end_14 rfl (lv_at hl 0 rfl) ?_
      refine lv_iload_n hx hb dX10_end_15 rfl (lv_at hl 1 rfl) ?_
      refine hx_puti hx hb hts hC_10 hown hW hT (hx_S.rf (M := [(10, 7)])) (gx.S hM) tt_10 7 ?o5 rfl kw_1150 ⟨rfl, rfl, rfl⟩ rfl (x := i1) ⟨?o6, ?o7⟩ rfl rfl rfl (List.mem_singleton.mpr rfl) dX10_end_16 (fun H locs h_3 eh_3 hW hT hs => ?_)
      case o5 => decide
      case o6 => omega
      case o7 => omega
      replace hM := hM.tr (hs.mono ?o8)
      case o8 => decide
      have f_4 : h_3.2.1 x 7 = i1 := ?o9
      case o9 =>
        rw [eh_3]
        exact hx_pi_at _ _ _ _
      refine lv_iload_n hx hb dX10_end_19 rfl (lv_at hl 1 rfl) ?_
      refine hx_reti hx hb hr hlk hW ⟨⟨i1, f_4, (Or.inr ⟨?o10, ?o11, rfl, rfl⟩)⟩, hT, hM⟩ dX10_end_20
      case o10 => omega
      case o11 => omega
    · skip
      refine lv_iconst (v := -1) hx hb dX10_end_12 ?o12 ?_
      case o12 => decide
      refine hx_reti hx hb hr hlk hW ⟨⟨t0, f_x_7, (Or.inl ⟨?o13, rfl, rfl⟩)⟩, hT, hM⟩ dX10_end_13
      case o13 => omega
end
section
set_option maxHeartbeats 4000000 in
set_option maxRecDepth 100000 in
theorem t_X9_inForce_v (l : Launch) (dC : Nat → ClassId) (dI : Nat → Nat → Nat) (dA : Nat → ClassId) (L : List Nat) (h : hx_h) (sz : Nat) (x : Nat) (i1 : Int32) (hT : hx_T T_tb L h) (gx : hx_g L h x 9) (qa : Nat) (gqa : hx_g L h qa 43) (f_x_5 : h.2.2 x 5 = some qa) (w : Nat) (gw : hx_g L h w 0) (f_x_4 : h.2.2 x 4 = some w)  (a0 : Int32) (f_x_6 : h.2.1 x 6 = a0) (A : Nat → hv_act) (hRA : hv_RA h qa w a0.toInt A) (pf_x_6 : ∀ j : Nat, (j : Int) < (h.2.1 x 6).toInt → h.2.2 qa j ≠ none) : Met l yX9_inForce (Cond.code yX9_inForce cX9_inForce 4 (some (.object "SmallCourt$Act")) :: hx_all) ({ frames := 0, cells := 0, slots := 0, locals := 0 }) (va_Pc [.ref x, .int i1] (hx_B T_tb (P_ty dA) (dC, dI) vwCl L h sz)) (va_Qq (fun (r : Option Nat) (u : List Nat × hx_h) => ((∃ q, r = some q ∧ hx_g u.1 u.2 q 0 ∧ (∃ k : Nat, k = hv_IF A i1.toInt a0.toInt.toNat ∧ hv_AQ u.2 q ((k : Int) - 1) (A k)))) ∧ hx_T T_tb u.1 u.2 ∧ hx_S T_tb [] L h u.1 u.2) (hx_E T_tb (P_ty dA) (dC, dI) vwCl (hx_A L sz)) (hx_A L sz)) 0 0 (hx_A L sz) := by
  refine hx_met (lv := [(0, .ref x), (1, .int i1)]) (by decide +kernel) rfl (Nat.le_of_ble_eq_true rfl) rfl ?_
  intro p e s m below meth c hx hb hml hr hlk hts0 hown hin hsz hW ls hl
  have hts : ∀ w ∈ hx_all, w.before _ s = true := fun w hw => hts0 w (List.mem_cons_of_mem _ hw)
  have hown : s.vm.findClass "SmallCourt" = some m.cls := hown
  have hM : hx_S T_tb [] L h L h := hx_S.rf
  have b_a0 := hT.gi gx tt_9 (k := 6) rfl
  rw [f_x_6] at b_a0
  have b_a0 : 0 ≤ a0.toInt ∧ a0.toInt ≤ 8 := b_a0
  refine lv_aload_n hx hb dX9_inForce_0 rfl (lv_at hl 0 rfl) ?_
  refine hk_getr hx hb hts hC_9 hown hW gx tt_9 4 ?o0 rfl kw_368 ⟨rfl, rfl, rfl⟩ f_x_4 dX9_inForce_1 ?_
  case o0 => decide
  refine lv_astore_n (lv' := [(2, .ref w), (0, .ref x), (1, .int i1)]) hx hb dX9_inForce_4 rfl hl ?o1 rfl (fun ls hl => ?_)
  case o1 => decide
  refine lv_iconst (v := 0) hx hb dX9_inForce_5 ?o2 ?_
  case o2 => decide
  refine lv_istore_n (lv' := [(3, .int (0 : Int32)), (2, .ref w), (0, .ref x), (1, .int i1)]) hx hb dX9_inForce_6 rfl hl ?o3 rfl (fun ls hl => ?_)
  case o3 => decide
  have loop7 : ∀ (n7 : Nat) (iv7_3 : Int32) (iv7_2 : Nat) (H : Heap) (locs : List Loc) (hL1 : List Nat) (hl1 : hx_h), 0 ≤ iv7_3.toInt → iv7_3.toInt ≤ 8 → (∃ k : Nat, k = hv_IF A i1.toInt (iv7_3.toInt).toNat ∧ hv_AQ hl1 iv7_2 ((k : Int) - 1) (A k)) → (iv7_3.toInt ≤ a0.toInt) → ∀ (ls : Array Slot), 8 - iv7_3.toInt < (n7 : Int) → hx_W T_tb (P_ty dA) (dC, dI) vwCl (hx_A L sz) s.heap hL1 hl1 s H locs → hx_T T_tb hL1 hl1 → hx_S T_tb [] L h hL1 hl1 → hl1.2.2 x 5 = some qa → hl1.2.2 x 4 = some w → hl1.2.1 x 6 = a0 → hx_g hL1 hl1 iv7_2 0 → hx_g hL1 hl1 x 9 → hx_g hL1 hl1 qa 43 → hx_g hL1 hl1 w 0 → (∀ j : Nat, (j : Int) < (hl1.2.1 x 6).toInt → hl1.2.2 qa j ≠ none) → hv_RA hl1 qa w a0.toInt A → lv_has ls 4 [(3, .int iv7_3), (2, .ref iv7_2), (0, .ref x), (1, .int i1)] → W p l e ({ frames := 0, cells := 0, slots := 0, locals := 0 }) s m ([.ref x, .int i1] : List Value).toArray below meth c H locs 0 0 (MQ below (va_Qq (fun (r : Option Nat) (u : List Nat × hx_h) => ((∃ q, r = some q ∧ hx_g u.1 u.2 q 0 ∧ (∃ k : Nat, k = hv_IF A i1.toInt a0.toInt.toNat ∧ hv_AQ u.2 q ((k : Int) - 1) (A k)))) ∧ hx_T T_tb u.1 u.2 ∧ hx_S T_tb [] L h u.1 u.2) (hx_E T_tb (P_ty dA) (dC, dI) vwCl (hx_A L sz)) (hx_A L sz)) ([.ref x, .int i1] : List Value).toArray s 0 0 (hx_A L sz)) (F0 m 7 ls []) := by
    intro n7
    induction n7 with
    | zero => intro iv7_3 iv7_2 H locs hL1 hl1 bliv7_3 buiv7_3 vi7_0 vi7_1 ls hn7; exfalso; omega
    | succ n7 ih7 =>
      intro iv7_3 iv7_2 H locs hL1 hl1 bliv7_3 buiv7_3 vi7_0 vi7_1 ls hn7 hW hT hM f_x_5 f_x_4 f_x_6 giv7_2 gx gqa gw pf_x_6 hRA hl
      obtain ⟨k9, e9, q9⟩ := vi7_0
      refine lv_iload_n hx hb dX9_inForce_7 rfl (lv_at hl 0 rfl) ?_
      refine lv_aload_n hx hb dX9_inForce_8 rfl (lv_at hl 2 rfl) ?_
      refine hk_geti hx hb hts hC_9 hown hW gx tt_9 6 ?o4 rfl kw_370 ⟨rfl, rfl, rfl⟩ f_x_6 dX9_inForce_9 ?_
      case o4 => decide
      refine hb_icmp_ge (zx := iv7_3.toInt) (zy := a0.toInt) (tgt := 57) hx hb rfl rfl dX9_inForce_12 ?o5 (fun c_1 => ?_) (fun c_1 => ?_)
      case o5 => decide
      · skip
        refine lv_aload_n hx hb dX9_inForce_57 rfl (lv_at hl 1 rfl) ?_
        exact hx_retq (v := (some iv7_2)) hx hb hr (Or.inl ⟨_, rfl⟩) hlk hW ⟨⟨_, rfl, giv7_2, (by have ez : iv7_3.toInt = a0.toInt := (by omega); rw [ez] at e9; exact ⟨k9, e9, q9⟩)⟩, hT, hM⟩ dX9_inForce_58
      · skip
        refine lv_aload_n hx hb dX9_inForce_15 rfl (lv_at hl 2 rfl) ?_
        refine hk_getr hx hb hts hC_9 hown hW gx tt_9 5 ?o6 rfl kw_369 ⟨rfl, rfl, rfl⟩ f_x_5 dX9_inForce_16 ?_
        case o6 => decide
        refine lv_iload_n hx hb dX9_inForce_19 rfl (lv_at hl 0 rfl) ?_
        refine hx_aaldN hx hb hW hT gqa tt_43 (t1 := 0) rfl ⟨?o7, ?o8⟩ (pf_x_6 _ (by rw [f_x_6]; exact hx_tnI (by omega) (by omega))) dX9_inForce_20 (fun q_2 fq_2 gq_2 => ?_)
        case o7 => omega
        case o8 => omega
        have ha1 := hRA.2 iv7_3.toInt.toNat ?o9 q_2 fq_2
        case o9 => omega
        refine hx_geti hx hb hts hC_0 hown hW hT gq_2 tt_0 1 ?o10 rfl kw_165 ⟨rfl, rfl, rfl⟩ dX9_inForce_21 (fun x_3 ex_3 lx_3 ux_3 => ?_)
        case o10 => decide
        have fx_3 := ex_3.symm
        have hd1 : x_3.toInt = (A (iv7_3.toInt.toNat + 1)).1 := ?o11
        case o11 =>
          rw [← fx_3]
          exact ha1.2.1
        refine lv_iload_n hx hb dX9_inForce_24 rfl (lv_at hl 3 rfl) ?_
        refine hb_icmp_gt (zx := x_3.toInt) (zy := i1.toInt) (tgt := 51) hx hb rfl rfl dX9_inForce_25 ?o12 (fun c_4 => ?_) (fun c_4 => ?_)
        case o12 => decide
        · skip
          obtain ⟨x_5, ex_5⟩ : ∃ y : Int32, y = iv7_3 + Int32.ofInt 1 := ⟨_, rfl⟩
          have rg_6 := i32_r iv7_3
          have zx_5 : x_5.toInt = iv7_3.toInt + (1) := ?o13
          case o13 =>
            rw [ex_5]
            refine i32_add rfl ?o14 ?o15 ?o16
            case o14 => decide
            case o15 => omega
            case o16 => omega
          refine lv_iinc (v := x_5) (lv' := [(3, .int x_5), (2, .ref iv7_2), (0, .ref x), (1, .int i1)]) hx hb dX9_inForce_51 hl (k := 0) rfl ex_5.symm ?o17 rfl (fun ls hl => ?_)
          case o17 => decide
          refine lv_goto (tgt := 7) hx hb dX9_inForce_54 ?o18 ?_
          case o18 => decide
          refine ih7 x_5 iv7_2 _ _ hL1 hl1 ?o19 ?o20 ⟨k9, e9.trans (hv_IF_n (fun z9 => by have z8 := z9.1; have z7 := z9.2; rw [← e9] at z7; omega) ?o21 zx_5).symm, q9⟩ ?o22 ls ?o23 hW hT hM f_x_5 f_x_4 f_x_6 giv7_2 gx gqa gw pf_x_6 hRA (lv_sub hl [0, 1, 2, 3] rfl)
          case o19 => omega
          case o20 => omega
          case o21 => omega
          case o22 => omega
          case o23 => omega
        · skip
          refine lv_aload_n hx hb dX9_inForce_28 rfl (lv_at hl 2 rfl) ?_
          refine hk_getr hx hb hts hC_9 hown hW gx tt_9 5 ?o24 rfl kw_369 ⟨rfl, rfl, rfl⟩ f_x_5 dX9_inForce_29 ?_
          case o24 => decide
          refine lv_iload_n hx hb dX9_inForce_32 rfl (lv_at hl 0 rfl) ?_
          refine hx_aaldN hx hb hW hT gqa tt_43 (t1 := 0) rfl ⟨?o25, ?o26⟩ (pf_x_6 _ (by rw [f_x_6]; exact hx_tnI (by omega) (by omega))) dX9_inForce_33 (fun q_7 fq_7 gq_7 => ?_)
          case o25 => omega
          case o26 => omega
          have ha2 := hRA.2 iv7_3.toInt.toNat ?o27 q_7 fq_7
          case o27 => omega
          refine hx_geti hx hb hts hC_0 hown hW hT gq_7 tt_0 1 ?o28 rfl kw_165 ⟨rfl, rfl, rfl⟩ dX9_inForce_34 (fun x_8 ex_8 lx_8 ux_8 => ?_)
          case o28 => decide
          have fx_8 := ex_8.symm
          have hd2 : x_8.toInt = (A (iv7_3.toInt.toNat + 1)).1 := ?o29
          case o29 =>
            rw [← fx_8]
            exact ha2.2.1
          refine lv_aload_n hx hb dX9_inForce_37 rfl (lv_at hl 1 rfl) ?_
          refine hx_geti hx hb hts hC_0 hown hW hT giv7_2 tt_0 1 ?o30 rfl kw_165 ⟨rfl, rfl, rfl⟩ dX9_inForce_38 (fun x_9 ex_9 lx_9 ux_9 => ?_)
          case o30 => decide
          have fx_9 := ex_9.symm
          have hd9 : x_9.toInt = (A k9).1 := ?o31
          case o31 =>
            rw [← fx_9]
            exact q9.2.1
          refine hb_icmp_lt (zx := x_8.toInt) (zy := x_9.toInt) (tgt := 51) hx hb rfl rfl dX9_inForce_41 ?o32 (fun c_10 => ?_) (fun c_10 => ?_)
          case o32 => decide
          · skip
            obtain ⟨x_11, ex_11⟩ : ∃ y : Int32, y = iv7_3 + Int32.ofInt 1 := ⟨_, rfl⟩
            have rg_12 := i32_r iv7_3
            have zx_11 : x_11.toInt = iv7_3.toInt + (1) := ?o33
            case o33 =>
              rw [ex_11]
              refine i32_add rfl ?o34 ?o35 ?o36
              case o34 => decide
              case o35 => omega
              case o36 => omega
            refine lv_iinc (v := x_11) (lv' := [(3, .int x_11), (2, .ref iv7_2), (0, .ref x), (1, .int i1)]) hx hb dX9_inForce_51 hl (k := 0) rfl ex_11.symm ?o37 rfl (fun ls hl => ?_)
            case o37 => decide
            refine lv_goto (tgt := 7) hx hb dX9_inForce_54 ?o38 ?_
            case o38 => decide
            refine ih7 x_11 iv7_2 _ _ hL1 hl1 ?o39 ?o40 ⟨k9, e9.trans (hv_IF_n (fun z9 => by have z8 := z9.1; have z7 := z9.2; rw [← e9] at z7; omega) ?o41 zx_11).symm, q9⟩ ?o42 ls ?o43 hW hT hM f_x_5 f_x_4 f_x_6 giv7_2 gx gqa gw pf_x_6 hRA (lv_sub hl [0, 1, 2, 3] rfl)
            case o39 => omega
            case o40 => omega
            case o41 => omega
            case o42 => omega
            case o43 => omega
          · skip
            refine lv_aload_n hx hb dX9_inForce_44 rfl (lv_at hl 2 rfl) ?_
            refine hk_getr hx hb hts hC_9 hown hW gx tt_9 5 ?o44 rfl kw_369 ⟨rfl, rfl, rfl⟩ f_x_5 dX9_inForce_45 ?_
            case o44 => decide
            refine lv_iload_n hx hb dX9_inForce_48 rfl (lv_at hl 0 rfl) ?_
            refine hx_aaldN hx hb hW hT gqa tt_43 (t1 := 0) rfl ⟨?o45, ?o46⟩ (pf_x_6 _ (by rw [f_x_6]; exact hx_tnI (by omega) (by omega))) dX9_inForce_49 (fun q_13 fq_13 gq_13 => ?_)
            case o45 => omega
            case o46 => omega
            have ha3 := hRA.2 iv7_3.toInt.toNat ?o47 q_13 fq_13
            case o47 => omega
            refine lv_astore_n (lv' := [(2, .ref q_13), (3, .int iv7_3), (0, .ref x), (1, .int i1)]) hx hb dX9_inForce_50 rfl hl ?o48 rfl (fun ls hl => ?_)
            case o48 => decide
            obtain ⟨x_14, ex_14⟩ : ∃ y : Int32, y = iv7_3 + Int32.ofInt 1 := ⟨_, rfl⟩
            have rg_15 := i32_r iv7_3
            have zx_14 : x_14.toInt = iv7_3.toInt + (1) := ?o49
            case o49 =>
              rw [ex_14]
              refine i32_add rfl ?o50 ?o51 ?o52
              case o50 => decide
              case o51 => omega
              case o52 => omega
            refine lv_iinc (v := x_14) (lv' := [(3, .int x_14), (2, .ref q_13), (0, .ref x), (1, .int i1)]) hx hb dX9_inForce_51 hl (k := 1) rfl ex_14.symm ?o53 rfl (fun ls hl => ?_)
            case o53 => decide
            refine lv_goto (tgt := 7) hx hb dX9_inForce_54 ?o54 ?_
            case o54 => decide
            refine ih7 x_14 q_13 _ _ hL1 hl1 ?o55 ?o56 ⟨iv7_3.toInt.toNat + 1, (hv_IF_y ⟨?o57, by rw [← e9]; omega⟩ ?o58 zx_14).symm, (by rw [show ((iv7_3.toInt.toNat + 1 : Nat) : Int) - 1 = (iv7_3.toInt.toNat : Int) by omega]; exact ha3)⟩ ?o59 ls ?o60 hW hT hM f_x_5 f_x_4 f_x_6 gq_13 gx gqa gw pf_x_6 hRA (lv_sub hl [0, 1, 2, 3] rfl)
            case o55 => omega
            case o56 => omega
            case o57 => omega
            case o58 => omega
            case o59 => omega
            case o60 => omega
  have zk_0 : (0 : Int32).toInt = 0 := ?o61
  case o61 => decide
  refine loop7 9 (0 : Int32) w _ _ L h ?o62 ?o63 ⟨0, (by rw [zk_0]; rfl), (by rw [show ((0 : Nat) : Int) - 1 = -1 from rfl]; exact hRA.1)⟩ ?o64 ls ?o65 hW hT hM f_x_5 f_x_4 f_x_6 gw gx gqa gw pf_x_6 hRA hl
  case o62 => decide
  case o63 => decide
  case o64 => omega
  case o65 => omega


set_option maxHeartbeats 4000000 in
set_option maxRecDepth 100000 in
theorem t_X9_force_v (l : Launch) (dC : Nat → ClassId) (dI : Nat → Nat → Nat) (dA : Nat → ClassId) (L : List Nat) (h : hx_h) (sz : Nat) (x : Nat) (i1 : Int32) (i2 : Int32) (hT : hx_T T_tb L h) (gx : hx_g L h x 9) (qa : Nat) (gqa : hx_g L h qa 43) (f_x_5 : h.2.2 x 5 = some qa) (w : Nat) (gw : hx_g L h w 0) (f_x_4 : h.2.2 x 4 = some w)  (a0 : Int32) (f_x_6 : h.2.1 x 6 = a0) (A : Nat → hv_act) (hRA : hv_RA h qa w a0.toInt A) (pf_x_6 : ∀ j : Nat, (j : Int) < (h.2.1 x 6).toInt → h.2.2 qa j ≠ none) : Met l yX9_force (Cond.code yX9_force cX9_force 4 (some .int) :: hx_all) ({ frames := 2, cells := 0, slots := 0, locals := 42 }) (va_Pc [.ref x, .int i1, .int i2] (hx_B T_tb (P_ty dA) (dC, dI) vwCl L h sz)) (va_Qi (fun (r : Int32) (u : List Nat × hx_h) => (hv_FO A i1.toInt i2.toInt a0.toInt r.toInt) ∧ hx_T T_tb u.1 u.2 ∧ hx_S T_tb [] L h u.1 u.2) (hx_E T_tb (P_ty dA) (dC, dI) vwCl (hx_A L sz)) (hx_A L sz)) 0 0 (hx_A L sz) := by
  refine hx_met (lv := [(0, .ref x), (1, .int i1), (2, .int i2)]) (by decide +kernel) rfl (Nat.le_of_ble_eq_true rfl) rfl ?_
  intro p e s m below meth c hx hb hml hr hlk hts0 hown hin hsz hW ls hl
  have hts : ∀ w ∈ hx_all, w.before _ s = true := fun w hw => hts0 w (List.mem_cons_of_mem _ hw)
  have hown : s.vm.findClass "SmallCourt" = some m.cls := hown
  have hM : hx_S T_tb [] L h L h := hx_S.rf
  have b_a0 := hT.gi gx tt_9 (k := 6) rfl
  rw [f_x_6] at b_a0
  have b_a0 : 0 ≤ a0.toInt ∧ a0.toInt ≤ 8 := b_a0
  refine lv_iload_n hx hb dX9_force_0 rfl (lv_at hl 1 rfl) ?_
  have hTo := hT
  refine hx_goi (hx_runS (As := [.int i1]) (rest := []) ⟨hx, hb, hml, hown, hts⟩ hW (t_X9_isDay_2 l dC dI dA L h s.heap.size i1 hT) (va_cwS 1 hts (hx_gS kw_431 kw_429 kw_430 kw_94) rfl rfl rfl (by decide +kernel) ⟨Nat.le_of_ble_eq_true rfl, Nat.le_of_ble_eq_true rfl⟩) rfl hl.1 rfl (Nat.le_of_ble_eq_true rfl) dX9_force_1 ⟨Nat.le_of_ble_eq_true rfl, Nat.le_of_ble_eq_true rfl⟩) hW (fun r_3 L_1 h_2 H locs p_4 hW => ?_)
  obtain ⟨hr_5, hT, hs⟩ := p_4
  replace hT : hx_T T_tb L_1 h_2 := hT
  replace hs : hx_S T_tb [] L h L_1 h_2 := hs
  replace f_x_5 := (hs.o gx trivial rfl).2.trans f_x_5
  replace f_x_4 := (hs.o gx trivial rfl).2.trans f_x_4
  replace f_x_6 := (hs.o gx trivial rfl).1.trans f_x_6
  replace pf_x_6 : ∀ j : Nat, (j : Int) < (h_2.2.1 x 6).toInt → h_2.2.2 qa j ≠ none := by
    intro j hj; rw [(hs.o gx trivial rfl).1] at hj; rw [(hs.a gqa rfl j).2]; exact pf_x_6 j hj
  replace hRA : hv_RA h_2 qa w a0.toInt A := hv_RA_S hs hTo gqa gw tt_43 tt_0 rfl rfl rfl rfl rfl rfl ?o0 hRA
  case o0 => omega
  replace hM := hM.tr (hs.mono ?o1)
  case o1 => decide
  replace gx := gx.S hs
  replace gqa := gqa.S hs
  replace gw := gw.S hs
  refine hb_if_eq (zx := r_3.toInt) (tgt := 17) hx hb rfl dX9_force_4 ?o2 (fun c_6 => ?_) (fun c_6 => ?_)
  case o2 => decide
  · skip
    replace hr_5 := hr_5.resolve_right (fun z9 => absurd (c_6.symm.trans z9.1) ?o3)
    case o3 => decide
    replace hr_5 := hr_5.2
    refine lv_iconst (v := -1) hx hb dX9_force_17 ?o4 ?_
    case o4 => decide
    refine hx_reti hx hb hr hlk hW ⟨(Or.inl ⟨?o5, ?o6⟩), hT, hM⟩ dX9_force_18
    case o5 => omega
    case o6 => decide
  · skip
    replace hr_5 := hr_5.resolve_left (fun z9 => c_6 z9.1)
    replace c_6 := hr_5.1
    replace hr_5 := hr_5.2
    refine lv_iload_n hx hb dX9_force_7 rfl (lv_at hl 2 rfl) ?_
    refine hb_if_lt (zx := i2.toInt) (tgt := 17) hx hb rfl dX9_force_8 ?o7 (fun c_7 => ?_) (fun c_7 => ?_)
    case o7 => decide
    · skip
      refine lv_iconst (v := -1) hx hb dX9_force_17 ?o8 ?_
      case o8 => decide
      refine hx_reti hx hb hr hlk hW ⟨(Or.inl ⟨?o9, ?o10⟩), hT, hM⟩ dX9_force_18
      case o9 => omega
      case o10 => decide
    · skip
      refine lv_iload_n hx hb dX9_force_11 rfl (lv_at hl 2 rfl) ?_
      refine lv_bipush (v := 14) hx hb dX9_force_12 ?o11 ?_
      case o11 => decide
      refine hb_icmp_lt (zx := i2.toInt) (zy := 14) (tgt := 19) hx hb rfl ?o12 dX9_force_14 ?o13 (fun c_8 => ?_) (fun c_8 => ?_)
      case o12 => decide
      case o13 => decide
      · skip
        refine lv_aload_n hx hb dX9_force_19 rfl (lv_at hl 0 rfl) ?_
        refine lv_iload_n hx hb dX9_force_20 rfl (lv_at hl 1 rfl) ?_
        have hTo := hT
        refine hx_goq (hx_runV (As := [.int i1]) (rest := []) ⟨hx, hb, hml, hown, hts⟩ hW gx tt_9 (T := TX9) (N := 20) rfl (t_X9_inForce_v l dC dI dA L_1 h_2 H.size x i1 hT gx qa gqa f_x_5 w gw f_x_4 a0 f_x_6 A hRA pf_x_6) (cwV 1 hts (hx_gV kw_597 kw_594 kw_596 kw_19 kw_94) rfl rfl rfl (by decide +kernel) ⟨Nat.le_of_ble_eq_true rfl, Nat.le_of_ble_eq_true rfl⟩) rfl hl.1 rfl (Nat.le_of_ble_eq_true rfl) dX9_force_21 ⟨Nat.le_of_ble_eq_true rfl, Nat.le_of_ble_eq_true rfl⟩) hW (fun r_11 L_9 h_10 H locs p_12 hW => ?_)
        obtain ⟨hr_13, hT, hs⟩ := p_12
        replace hT : hx_T T_tb L_9 h_10 := hT
        replace hs : hx_S T_tb [] L_1 h_2 L_9 h_10 := hs
        replace f_x_5 := (hs.o gx trivial rfl).2.trans f_x_5
        replace f_x_4 := (hs.o gx trivial rfl).2.trans f_x_4
        replace f_x_6 := (hs.o gx trivial rfl).1.trans f_x_6
        replace pf_x_6 : ∀ j : Nat, (j : Int) < (h_10.2.1 x 6).toInt → h_10.2.2 qa j ≠ none := by
          intro j hj; rw [(hs.o gx trivial rfl).1] at hj; rw [(hs.a gqa rfl j).2]; exact pf_x_6 j hj
        replace hRA : hv_RA h_10 qa w a0.toInt A := hv_RA_S hs hTo gqa gw tt_43 tt_0 rfl rfl rfl rfl rfl rfl ?o14 hRA
        case o14 => omega
        replace hM := hM.tr (hs.mono ?o15)
        case o15 => decide
        replace gx := gx.S hs
        replace gqa := gqa.S hs
        replace gw := gw.S hs
        obtain ⟨q_14, rfl, gq_14, hr_13B⟩ := hr_13
        have gq_14 : hx_g L_9 h_10 q_14 0 := gq_14
        obtain ⟨kk_15, kk_15E, kk_15Q⟩ := hr_13B
        have kk_15Q : hv_AQ h_10 q_14 (((kk_15 : Nat) : Int) - 1) (A kk_15) := kk_15Q
        refine lv_astore_n (lv' := [(3, .ref q_14), (0, .ref x), (1, .int i1), (2, .int i2)]) hx hb dX9_force_24 rfl hl ?o16 rfl (fun ls hl => ?_)
        case o16 => decide
        refine lv_iload_n hx hb dX9_force_25 rfl (lv_at hl 3 rfl) ?_
        refine hb_if_ne (zx := i2.toInt) (tgt := 36) hx hb rfl dX9_force_26 ?o17 (fun c_16 => ?_) (fun c_16 => ?_)
        case o17 => decide
        · skip
          refine lv_aload_n hx hb dX9_force_36 rfl (lv_at hl 0 rfl) ?_
          refine hx_getn hx hb hts hC_0 hown hW hT gq_14 tt_0 2 ?o18 rfl kw_170 ⟨rfl, rfl, rfl⟩ dX9_force_37 (fun q_17 fq_17 gq_17 => ?_)
          case o18 => decide
          refine lv_iload_n hx hb dX9_force_40 rfl (lv_at hl 3 rfl) ?_
          refine hx_iald hx hb hW hT gq_17 tt_11 rfl ⟨?o19, ?o20⟩ dX9_force_41 (fun x_18 ex_18 lx_18 ux_18 => ?_)
          case o19 => omega
          case o20 => omega
          refine hx_reti hx hb hr hlk hW ⟨(Or.inr ⟨?o21, Or.inr ⟨?o22, (by rw [← kk_15E, ← kk_15Q.2.2.1 q_17 fq_17, ex_18]; show _ = (if (i2.toInt - 1).toNat < 13 then (_ : Int32).toInt else 0); rw [if_pos (by omega), show (i2.toInt - 1).toNat + 1 = i2.toNatClampNeg by unfold Int32.toNatClampNeg; omega])⟩⟩), hT, hM⟩ dX9_force_42
          case o21 => omega
          case o22 => omega
        · skip
          refine lv_aload_n hx hb dX9_force_29 rfl (lv_at hl 0 rfl) ?_
          refine hx_geti hx hb hts hC_0 hown hW hT gq_14 tt_0 0 ?o23 rfl kw_163 ⟨rfl, rfl, rfl⟩ dX9_force_30 (fun x_19 ex_19 lx_19 ux_19 => ?_)
          case o23 => decide
          have fx_19 := ex_19.symm
          refine lv_goto (tgt := 42) hx hb dX9_force_33 ?o24 ?_
          case o24 => decide
          refine hx_reti hx hb hr hlk hW ⟨(Or.inr ⟨?o25, Or.inl ⟨?o26, (by rw [← kk_15E]; have h8 := kk_15Q.1; rw [fx_19] at h8; exact h8)⟩⟩), hT, hM⟩ dX9_force_42
          case o25 => omega
          case o26 => omega
      · skip
        refine lv_iconst (v := -1) hx hb dX9_force_17 ?o27 ?_
        case o27 => decide
        refine hx_reti hx hb hr hlk hW ⟨(Or.inl ⟨?o28, ?o29⟩), hT, hM⟩ dX9_force_18
        case o28 => omega
        case o29 => decide
end
section
set_option maxHeartbeats 4000000 in
set_option maxRecDepth 100000 in
theorem t_X10_ruleOf_v (l : Launch) (dC : Nat → ClassId) (dI : Nat → Nat → Nat) (dA : Nat → ClassId) (L : List Nat) (h : hx_h) (sz : Nat) (x : Nat) (i1 : Int32) (i2 : Int32) (hT : hx_T T_tb L h) (gx : hx_g L h x 10) (ql : Nat) (gql : hx_g L h ql 50) (f_x_3 : h.2.2 x 3 = some ql) (rf : Nat → Int32) (af_ql : h.2.1 ql = rf) (hi1 : 0 ≤ i1.toInt ∧ i1.toInt ≤ 8) (hi2 : 0 ≤ i2.toInt ∧ i2.toInt ≤ 12) : Met l yX10_ruleOf (Cond.code yX10_ruleOf cX10_ruleOf 3 (some .int) :: hx_all) ({ frames := 0, cells := 0, slots := 0, locals := 0 }) (va_Pc [.ref x, .int i1, .int i2] (hx_B T_tb (P_ty dA) (dC, dI) vwCl L h sz)) (va_Qi (fun (r : Int32) (u : List Nat × hx_h) => (r = rf (13 * i1.toInt.toNat + i2.toInt.toNat) ∧ (0 ≤ r.toInt ∧ r.toInt ≤ 9999)) ∧ hx_T T_tb u.1 u.2 ∧ hx_S T_tb [] L h u.1 u.2) (hx_E T_tb (P_ty dA) (dC, dI) vwCl (hx_A L sz)) (hx_A L sz)) 0 0 (hx_A L sz) := by
  refine hx_met (lv := [(0, .ref x), (1, .int i1), (2, .int i2)]) (by decide +kernel) rfl (Nat.le_of_ble_eq_true rfl) rfl ?_
  intro p e s m below meth c hx hb hml hr hlk hts0 hown hin hsz hW ls hl
  have hts : ∀ w ∈ hx_all, w.before _ s = true := fun w hw => hts0 w (List.mem_cons_of_mem _ hw)
  have hown : s.vm.findClass "SmallCourtModel" = some m.cls := hown
  have hM : hx_S T_tb [] L h L h := hx_S.rf
  refine lv_aload_n hx hb dX10_ruleOf_0 rfl (lv_at hl 0 rfl) ?_
  refine hk_getr hx hb hts hC_10 hown hW (gx.S hM) tt_10 3 ?o0 rfl kw_1146 ⟨rfl, rfl, rfl⟩ ((hM.o gx trivial rfl).2.trans f_x_3) dX10_ruleOf_1 ?_
  case o0 => decide
  refine lv_bipush (v := 13) hx hb dX10_ruleOf_4 ?o1 ?_
  case o1 => decide
  refine lv_iload_n hx hb dX10_ruleOf_6 rfl (lv_at hl 1 rfl) ?_
  refine lv_imul hx hb dX10_ruleOf_7 ?_
  refine lv_topi (fun x_1 ex_1 => ?_)
  have zx_1 : x_1.toInt = 13 * i1.toInt := ?o2
  case o2 =>
    rw [ex_1]
    refine i32_mul ?o3 rfl rfl ?o4 ?o5
    case o3 => decide
    case o4 => omega
    case o5 => omega
  refine lv_iload_n hx hb dX10_ruleOf_8 rfl (lv_at hl 2 rfl) ?_
  refine lv_iadd hx hb dX10_ruleOf_9 ?_
  have rg_2 := i32_r x_1
  have rg_3 := i32_r i2
  refine lv_topi (fun x_4 ex_4 => ?_)
  have zx_4 : x_4.toInt = x_1.toInt + i2.toInt := ?o6
  case o6 =>
    rw [ex_4]
    refine i32_add rfl rfl ?o7 ?o8
    case o7 => omega
    case o8 => omega
  refine hx_iald hx hb hW hT (gql.S hM) tt_50 rfl ⟨?o9, ?o10⟩ dX10_ruleOf_10 (fun x_5 ex_5 lx_5 ux_5 => ?_)
  case o9 => omega
  case o10 => omega
  have ax_5 : x_5 = rf x_4.toNatClampNeg := ex_5.trans (congrFun (hx_afS hM gql rfl af_ql) _)
  refine hx_reti hx hb hr hlk hW ⟨⟨(by rw [ax_5]; congr 1; unfold Int32.toNatClampNeg; omega), ?o11⟩, hT, hM⟩ dX10_ruleOf_11
  case o11 => omega


set_option maxHeartbeats 4000000 in
set_option maxRecDepth 100000 in
theorem t_X10_inForce_v (l : Launch) (dC : Nat → ClassId) (dI : Nat → Nat → Nat) (dA : Nat → ClassId) (L : List Nat) (h : hx_h) (sz : Nat) (x : Nat) (i1 : Int32) (hT : hx_T T_tb L h) (gx : hx_g L h x 10) (qd : Nat) (gqd : hx_g L h qd 49) (f_x_2 : h.2.2 x 2 = some qd) (ql : Nat) (gql : hx_g L h ql 50) (f_x_3 : h.2.2 x 3 = some ql) (qn : Nat) (gqn : hx_g L h qn 51) (f_x_4 : h.2.2 x 4 = some qn) (qp : Nat) (gqp : hx_g L h qp 52) (f_x_5 : h.2.2 x 5 = some qp) (adf : Nat → Int32) (af_qd : h.2.1 qd = adf) (rf : Nat → Int32) (af_ql : h.2.1 ql = rf) (psf : Nat → Int32) (af_qn : h.2.1 qn = psf) (prf : Nat → Int32) (af_qp : h.2.1 qp = prf) (a0 : Int32) (f_x_1 : h.2.1 x 1 = a0) (A : Nat → hv_act) (hCA : hv_CA adf rf psf prf a0.toInt A) : Met l yX10_inForce (Cond.code yX10_inForce cX10_inForce 4 (some .int) :: hx_all) ({ frames := 0, cells := 0, slots := 0, locals := 0 }) (va_Pc [.ref x, .int i1] (hx_B T_tb (P_ty dA) (dC, dI) vwCl L h sz)) (va_Qi (fun (r : Int32) (u : List Nat × hx_h) => (r.toInt = (hv_IF A i1.toInt a0.toInt.toNat : Int) ∧ (0 ≤ r.toInt ∧ r.toInt ≤ a0.toInt)) ∧ hx_T T_tb u.1 u.2 ∧ hx_S T_tb [] L h u.1 u.2) (hx_E T_tb (P_ty dA) (dC, dI) vwCl (hx_A L sz)) (hx_A L sz)) 0 0 (hx_A L sz) := by
  refine hx_met (lv := [(0, .ref x), (1, .int i1)]) (by decide +kernel) rfl (Nat.le_of_ble_eq_true rfl) rfl ?_
  intro p e s m below meth c hx hb hml hr hlk hts0 hown hin hsz hW ls hl
  have hts : ∀ w ∈ hx_all, w.before _ s = true := fun w hw => hts0 w (List.mem_cons_of_mem _ hw)
  have hown : s.vm.findClass "SmallCourtModel" = some m.cls := hown
  have hM : hx_S T_tb [] L h L h := hx_S.rf
  have b_a0 := hT.gi gx tt_10 (k := 1) rfl
  rw [f_x_1] at b_a0
  have b_a0 : 0 ≤ a0.toInt ∧ a0.toInt ≤ 8 := b_a0
  refine lv_iconst (v := 0) hx hb dX10_inForce_0 ?o0 ?_
  case o0 => decide
  refine lv_istore_n (lv' := [(2, .int (0 : Int32)), (0, .ref x), (1, .int i1)]) hx hb dX10_inForce_1 rfl hl ?o1 rfl (fun ls hl => ?_)
  case o1 => decide
  refine lv_iconst (v := 1) hx hb dX10_inForce_2 ?o2 ?_
  case o2 => decide
  refine lv_istore_n (lv' := [(3, .int (1 : Int32)), (2, .int (0 : Int32)), (0, .ref x), (1, .int i1)]) hx hb dX10_inForce_3 rfl hl ?o3 rfl (fun ls hl => ?_)
  case o3 => decide
  have loop4 : ∀ (n4 : Nat) (iv4_2 iv4_3 : Int32) (H : Heap) (locs : List Loc) (hL1 : List Nat) (hl1 : hx_h), 0 ≤ iv4_2.toInt → iv4_2.toInt ≤ 8 → 1 ≤ iv4_3.toInt → iv4_3.toInt ≤ 9 → (((hv_IF A i1.toInt (iv4_3.toInt - 1).toNat : Nat) : Int) = iv4_2.toInt) → (iv4_2.toInt ≤ iv4_3.toInt - 1) → (iv4_3.toInt ≤ a0.toInt + 1) → ∀ (ls : Array Slot), 9 - iv4_3.toInt < (n4 : Int) → hx_W T_tb (P_ty dA) (dC, dI) vwCl (hx_A L sz) s.heap hL1 hl1 s H locs → hx_T T_tb hL1 hl1 → hx_S T_tb [] L h hL1 hl1 → lv_has ls 4 [(3, .int iv4_3), (2, .int iv4_2), (0, .ref x), (1, .int i1)] → W p l e ({ frames := 0, cells := 0, slots := 0, locals := 0 }) s m ([.ref x, .int i1] : List Value).toArray below meth c H locs 0 0 (MQ below (va_Qi (fun (r : Int32) (u : List Nat × hx_h) => (r.toInt = (hv_IF A i1.toInt a0.toInt.toNat : Int) ∧ (0 ≤ r.toInt ∧ r.toInt ≤ a0.toInt)) ∧ hx_T T_tb u.1 u.2 ∧ hx_S T_tb [] L h u.1 u.2) (hx_E T_tb (P_ty dA) (dC, dI) vwCl (hx_A L sz)) (hx_A L sz)) ([.ref x, .int i1] : List Value).toArray s 0 0 (hx_A L sz)) (F0 m 4 ls []) := by
    intro n4
    induction n4 with
    | zero => intro iv4_2 iv4_3 H locs hL1 hl1 bliv4_2 buiv4_2 bliv4_3 buiv4_3 vi4_0 vi4_1 vi4_2 ls hn4; exfalso; omega
    | succ n4 ih4 =>
      intro iv4_2 iv4_3 H locs hL1 hl1 bliv4_2 buiv4_2 bliv4_3 buiv4_3 vi4_0 vi4_1 vi4_2 ls hn4 hW hT hM   hl
      have hk9 := vi4_0
      refine lv_iload_n hx hb dX10_inForce_4 rfl (lv_at hl 0 rfl) ?_
      refine lv_aload_n hx hb dX10_inForce_5 rfl (lv_at hl 2 rfl) ?_
      refine hk_geti hx hb hts hC_10 hown hW (gx.S hM) tt_10 1 ?o4 rfl kw_1144 ⟨rfl, rfl, rfl⟩ ((hM.o gx trivial rfl).1.trans f_x_1) dX10_inForce_6 ?_
      case o4 => decide
      refine hb_icmp_gt (zx := iv4_3.toInt) (zy := a0.toInt) (tgt := 49) hx hb rfl rfl dX10_inForce_9 ?o5 (fun c_1 => ?_) (fun c_1 => ?_)
      case o5 => decide
      · skip
        refine lv_iload_n hx hb dX10_inForce_49 rfl (lv_at hl 1 rfl) ?_
        refine hx_reti hx hb hr hlk hW ⟨⟨(by have h7 := vi4_0; rw [show (iv4_3.toInt - 1).toNat = a0.toInt.toNat by omega] at h7; omega), ?o6, ?o7⟩, hT, hM⟩ dX10_inForce_50
        case o6 => omega
        case o7 => omega
      · skip
        refine lv_aload_n hx hb dX10_inForce_12 rfl (lv_at hl 2 rfl) ?_
        refine hk_getr hx hb hts hC_10 hown hW (gx.S hM) tt_10 2 ?o8 rfl kw_1145 ⟨rfl, rfl, rfl⟩ ((hM.o gx trivial rfl).2.trans f_x_2) dX10_inForce_13 ?_
        case o8 => decide
        refine lv_iload_n hx hb dX10_inForce_16 rfl (lv_at hl 0 rfl) ?_
        refine hx_iald hx hb hW hT (gqd.S hM) tt_49 rfl ⟨?o9, ?o10⟩ dX10_inForce_17 (fun x_2 ex_2 lx_2 ux_2 => ?_)
        case o9 => omega
        case o10 => omega
        have ax_2 : x_2 = adf iv4_3.toNatClampNeg := ex_2.trans (congrFun (hx_afS hM gqd rfl af_qd) _)
        have hdx_2 : x_2.toInt = (A (iv4_3.toInt.toNat - 1 + 1)).1 ∧ 0 ≤ x_2.toInt := ?o11
        case o11 =>
          have h8 := (hCA.2 iv4_3.toInt.toNat ?o12).1.2 ?o13
          case o12 => omega
          case o13 => omega
          rw [show iv4_3.toInt.toNat - 1 + 1 = iv4_3.toInt.toNat by omega, ax_2]
          exact ⟨h8.1, by show 0 ≤ (adf iv4_3.toInt.toNat).toInt; omega⟩
        refine lv_iload_n hx hb dX10_inForce_18 rfl (lv_at hl 3 rfl) ?_
        refine hb_icmp_gt (zx := x_2.toInt) (zy := i1.toInt) (tgt := 43) hx hb rfl rfl dX10_inForce_19 ?o14 (fun c_3 => ?_) (fun c_3 => ?_)
        case o14 => decide
        · skip
          obtain ⟨x_4, ex_4⟩ : ∃ y : Int32, y = iv4_3 + Int32.ofInt 1 := ⟨_, rfl⟩
          have rg_5 := i32_r iv4_3
          have zx_4 : x_4.toInt = iv4_3.toInt + (1) := ?o15
          case o15 =>
            rw [ex_4]
            refine i32_add rfl ?o16 ?o17 ?o18
            case o16 => decide
            case o17 => omega
            case o18 => omega
          refine lv_iinc (v := x_4) (lv' := [(3, .int x_4), (2, .int iv4_2), (0, .ref x), (1, .int i1)]) hx hb dX10_inForce_43 hl (k := 0) rfl ex_4.symm ?o19 rfl (fun ls hl => ?_)
          case o19 => decide
          refine lv_goto (tgt := 4) hx hb dX10_inForce_46 ?o20 ?_
          case o20 => decide
          refine ih4 iv4_2 x_4 _ _ hL1 hl1 ?o21 ?o22 ?o23 ?o24 (by have h7 := hv_IF_n (A := A) (d := i1.toInt) (l := iv4_3.toInt - 1) (l1 := x_4.toInt - 1) (fun z9 => by have z8 := z9.1; have z7 := z9.2; rw [show ((iv4_3.toInt - 1).toNat + 1) = iv4_3.toInt.toNat - 1 + 1 by omega] at z8 z7; omega) (by omega) (show x_4.toInt - 1 = (iv4_3.toInt - 1) + 1 by omega); omega) ?o25 ?o26 ls ?o27 hW hT hM   (lv_sub hl [0, 1, 2, 3] rfl)
          case o21 => omega
          case o22 => omega
          case o23 => omega
          case o24 => omega
          case o25 => omega
          case o26 => omega
          case o27 => omega
        · skip
          refine lv_iload_n hx hb dX10_inForce_22 rfl (lv_at hl 1 rfl) ?_
          refine hb_if_eq (zx := iv4_2.toInt) (tgt := 41) hx hb rfl dX10_inForce_23 ?o28 (fun c_6 => ?_) (fun c_6 => ?_)
          case o28 => decide
          · skip
            have hz9 : (A (hv_IF A i1.toInt (iv4_3.toInt - 1).toNat)).1 ≤ (A (iv4_3.toInt.toNat - 1 + 1)).1 := by first | omega | (rw [show hv_IF A i1.toInt (iv4_3.toInt - 1).toNat = 0 by omega, hCA.1]; omega)
            refine lv_iload_n hx hb dX10_inForce_41 rfl (lv_at hl 0 rfl) ?_
            refine lv_istore_n (lv' := [(2, .int iv4_3), (3, .int iv4_3), (0, .ref x), (1, .int i1)]) hx hb dX10_inForce_42 rfl hl ?o29 rfl (fun ls hl => ?_)
            case o29 => decide
            obtain ⟨x_7, ex_7⟩ : ∃ y : Int32, y = iv4_3 + Int32.ofInt 1 := ⟨_, rfl⟩
            have rg_8 := i32_r iv4_3
            have zx_7 : x_7.toInt = iv4_3.toInt + (1) := ?o30
            case o30 =>
              rw [ex_7]
              refine i32_add rfl ?o31 ?o32 ?o33
              case o31 => decide
              case o32 => omega
              case o33 => omega
            refine lv_iinc (v := x_7) (lv' := [(3, .int x_7), (2, .int iv4_3), (0, .ref x), (1, .int i1)]) hx hb dX10_inForce_43 hl (k := 1) rfl ex_7.symm ?o34 rfl (fun ls hl => ?_)
            case o34 => decide
            refine lv_goto (tgt := 4) hx hb dX10_inForce_46 ?o35 ?_
            case o35 => decide
            refine ih4 iv4_3 x_7 _ _ hL1 hl1 ?o36 ?o37 ?o38 ?o39 (by have h7 := hv_IF_y (A := A) (d := i1.toInt) (l := iv4_3.toInt - 1) (l1 := x_7.toInt - 1) ⟨(by rw [show (iv4_3.toInt - 1).toNat = iv4_3.toInt.toNat - 1 by omega]; omega), (by rw [show ((iv4_3.toInt - 1).toNat + 1) = iv4_3.toInt.toNat - 1 + 1 by omega]; exact hz9)⟩ (by omega) (show x_7.toInt - 1 = (iv4_3.toInt - 1) + 1 by omega); omega) ?o40 ?o41 ls ?o42 hW hT hM   (lv_sub hl [0, 1, 2, 3] rfl)
            case o36 => omega
            case o37 => omega
            case o38 => omega
            case o39 => omega
            case o40 => omega
            case o41 => omega
            case o42 => omega
          · skip
            refine lv_aload_n hx hb dX10_inForce_26 rfl (lv_at hl 2 rfl) ?_
            refine hk_getr hx hb hts hC_10 hown hW (gx.S hM) tt_10 2 ?o43 rfl kw_1145 ⟨rfl, rfl, rfl⟩ ((hM.o gx trivial rfl).2.trans f_x_2) dX10_inForce_27 ?_
            case o43 => decide
            refine lv_iload_n hx hb dX10_inForce_30 rfl (lv_at hl 0 rfl) ?_
            refine hx_iald hx hb hW hT (gqd.S hM) tt_49 rfl ⟨?o44, ?o45⟩ dX10_inForce_31 (fun x_9 ex_9 lx_9 ux_9 => ?_)
            case o44 => omega
            case o45 => omega
            have ax_9 : x_9 = adf iv4_3.toNatClampNeg := ex_9.trans (congrFun (hx_afS hM gqd rfl af_qd) _)
            obtain rfl : x_2 = x_9 := ex_2.trans ex_9.symm
            refine lv_aload_n hx hb dX10_inForce_32 rfl (lv_at hl 2 rfl) ?_
            refine hk_getr hx hb hts hC_10 hown hW (gx.S hM) tt_10 2 ?o46 rfl kw_1145 ⟨rfl, rfl, rfl⟩ ((hM.o gx trivial rfl).2.trans f_x_2) dX10_inForce_33 ?_
            case o46 => decide
            refine lv_iload_n hx hb dX10_inForce_36 rfl (lv_at hl 1 rfl) ?_
            refine hx_iald hx hb hW hT (gqd.S hM) tt_49 rfl ⟨?o47, ?o48⟩ dX10_inForce_37 (fun x_10 ex_10 lx_10 ux_10 => ?_)
            case o47 => omega
            case o48 => omega
            have ax_10 : x_10 = adf iv4_2.toNatClampNeg := ex_10.trans (congrFun (hx_afS hM gqd rfl af_qd) _)
            have hdx_10 : x_10.toInt = (A (hv_IF A i1.toInt (iv4_3.toInt - 1).toNat)).1 := ?o49
            case o49 =>
              have h8 := (hCA.2 iv4_2.toInt.toNat ?o50).1.2 ?o51
              case o50 => omega
              case o51 => omega
              rw [show hv_IF A i1.toInt (iv4_3.toInt - 1).toNat = iv4_2.toInt.toNat by omega, ax_10]
              exact h8.1
            refine hb_icmp_lt (zx := x_2.toInt) (zy := x_10.toInt) (tgt := 43) hx hb rfl rfl dX10_inForce_38 ?o52 (fun c_11 => ?_) (fun c_11 => ?_)
            case o52 => decide
            · skip
              obtain ⟨x_12, ex_12⟩ : ∃ y : Int32, y = iv4_3 + Int32.ofInt 1 := ⟨_, rfl⟩
              have rg_13 := i32_r iv4_3
              have zx_12 : x_12.toInt = iv4_3.toInt + (1) := ?o53
              case o53 =>
                rw [ex_12]
                refine i32_add rfl ?o54 ?o55 ?o56
                case o54 => decide
                case o55 => omega
                case o56 => omega
              refine lv_iinc (v := x_12) (lv' := [(3, .int x_12), (2, .int iv4_2), (0, .ref x), (1, .int i1)]) hx hb dX10_inForce_43 hl (k := 0) rfl ex_12.symm ?o57 rfl (fun ls hl => ?_)
              case o57 => decide
              refine lv_goto (tgt := 4) hx hb dX10_inForce_46 ?o58 ?_
              case o58 => decide
              refine ih4 iv4_2 x_12 _ _ hL1 hl1 ?o59 ?o60 ?o61 ?o62 (by have h7 := hv_IF_n (A := A) (d := i1.toInt) (l := iv4_3.toInt - 1) (l1 := x_12.toInt - 1) (fun z9 => by have z8 := z9.1; have z7 := z9.2; rw [show ((iv4_3.toInt - 1).toNat + 1) = iv4_3.toInt.toNat - 1 + 1 by omega] at z8 z7; omega) (by omega) (show x_12.toInt - 1 = (iv4_3.toInt - 1) + 1 by omega); omega) ?o63 ?o64 ls ?o65 hW hT hM   (lv_sub hl [0, 1, 2, 3] rfl)
              case o59 => omega
              case o60 => omega
              case o61 => omega
              case o62 => omega
              case o63 => omega
              case o64 => omega
              case o65 => omega
            · skip
              have hz9 : (A (hv_IF A i1.toInt (iv4_3.toInt - 1).toNat)).1 ≤ (A (iv4_3.toInt.toNat - 1 + 1)).1 := by first | omega | (rw [show hv_IF A i1.toInt (iv4_3.toInt - 1).toNat = 0 by omega, hCA.1]; omega)
              refine lv_iload_n hx hb dX10_inForce_41 rfl (lv_at hl 0 rfl) ?_
              refine lv_istore_n (lv' := [(2, .int iv4_3), (3, .int iv4_3), (0, .ref x), (1, .int i1)]) hx hb dX10_inForce_42 rfl hl ?o66 rfl (fun ls hl => ?_)
              case o66 => decide
              obtain ⟨x_14, ex_14⟩ : ∃ y : Int32, y = iv4_3 + Int32.ofInt 1 := ⟨_, rfl⟩
              have rg_15 := i32_r iv4_3
              have zx_14 : x_14.toInt = iv4_3.toInt + (1) := ?o67
              case o67 =>
                rw [ex_14]
                refine i32_add rfl ?o68 ?o69 ?o70
                case o68 => decide
                case o69 => omega
                case o70 => omega
              refine lv_iinc (v := x_14) (lv' := [(3, .int x_14), (2, .int iv4_3), (0, .ref x), (1, .int i1)]) hx hb dX10_inForce_43 hl (k := 1) rfl ex_14.symm ?o71 rfl (fun ls hl => ?_)
              case o71 => decide
              refine lv_goto (tgt := 4) hx hb dX10_inForce_46 ?o72 ?_
              case o72 => decide
              refine ih4 iv4_3 x_14 _ _ hL1 hl1 ?o73 ?o74 ?o75 ?o76 (by have h7 := hv_IF_y (A := A) (d := i1.toInt) (l := iv4_3.toInt - 1) (l1 := x_14.toInt - 1) ⟨(by rw [show (iv4_3.toInt - 1).toNat = iv4_3.toInt.toNat - 1 by omega]; omega), (by rw [show ((iv4_3.toInt - 1).toNat + 1) = iv4_3.toInt.toNat - 1 + 1 by omega]; exact hz9)⟩ (by omega) (show x_14.toInt - 1 = (iv4_3.toInt - 1) + 1 by omega); omega) ?o77 ?o78 ls ?o79 hW hT hM   (lv_sub hl [0, 1, 2, 3] rfl)
              case o73 => omega
              case o74 => omega
              case o75 => omega
              case o76 => omega
              case o77 => omega
              case o78 => omega
              case o79 => omega
  have zk_0 : (0 : Int32).toInt = 0 := ?o80
  case o80 => decide
  have zk_1 : (1 : Int32).toInt = 1 := ?o81
  case o81 => decide
  refine loop4 9 (0 : Int32) (1 : Int32) _ _ L h ?o82 ?o83 ?o84 ?o85 (by rw [show ((1 : Int32).toInt - 1).toNat = 0 from by decide]; rfl) ?o86 ?o87 ls ?o88 hW hT hM   hl
  case o82 => decide
  case o83 => decide
  case o84 => decide
  case o85 => decide
  case o86 => omega
  case o87 => omega
  case o88 => omega


set_option maxHeartbeats 4000000 in
set_option maxRecDepth 100000 in
theorem t_X10_force_v (l : Launch) (dC : Nat → ClassId) (dI : Nat → Nat → Nat) (dA : Nat → ClassId) (L : List Nat) (h : hx_h) (sz : Nat) (x : Nat) (i1 : Int32) (i2 : Int32) (hT : hx_T T_tb L h) (gx : hx_g L h x 10) (qd : Nat) (gqd : hx_g L h qd 49) (f_x_2 : h.2.2 x 2 = some qd) (ql : Nat) (gql : hx_g L h ql 50) (f_x_3 : h.2.2 x 3 = some ql) (qn : Nat) (gqn : hx_g L h qn 51) (f_x_4 : h.2.2 x 4 = some qn) (qp : Nat) (gqp : hx_g L h qp 52) (f_x_5 : h.2.2 x 5 = some qp) (adf : Nat → Int32) (af_qd : h.2.1 qd = adf) (rf : Nat → Int32) (af_ql : h.2.1 ql = rf) (psf : Nat → Int32) (af_qn : h.2.1 qn = psf) (prf : Nat → Int32) (af_qp : h.2.1 qp = prf) (a0 : Int32) (f_x_1 : h.2.1 x 1 = a0) (A : Nat → hv_act) (hCA : hv_CA adf rf psf prf a0.toInt A) : Met l yX10_force (Cond.code yX10_force cX10_force 4 (some .int) :: hx_all) ({ frames := 2, cells := 0, slots := 0, locals := 42 }) (va_Pc [.ref x, .int i1, .int i2] (hx_B T_tb (P_ty dA) (dC, dI) vwCl L h sz)) (va_Qi (fun (r : Int32) (u : List Nat × hx_h) => (hv_FO A i1.toInt i2.toInt a0.toInt r.toInt) ∧ hx_T T_tb u.1 u.2 ∧ hx_S T_tb [] L h u.1 u.2) (hx_E T_tb (P_ty dA) (dC, dI) vwCl (hx_A L sz)) (hx_A L sz)) 0 0 (hx_A L sz) := by
  refine hx_met (lv := [(0, .ref x), (1, .int i1), (2, .int i2)]) (by decide +kernel) rfl (Nat.le_of_ble_eq_true rfl) rfl ?_
  intro p e s m below meth c hx hb hml hr hlk hts0 hown hin hsz hW ls hl
  have hts : ∀ w ∈ hx_all, w.before _ s = true := fun w hw => hts0 w (List.mem_cons_of_mem _ hw)
  have hown : s.vm.findClass "SmallCourtModel" = some m.cls := hown
  have hM : hx_S T_tb [] L h L h := hx_S.rf
  have b_a0 := hT.gi gx tt_10 (k := 1) rfl
  rw [f_x_1] at b_a0
  have b_a0 : 0 ≤ a0.toInt ∧ a0.toInt ≤ 8 := b_a0
  refine lv_iload_n hx hb dX10_force_0 rfl (lv_at hl 1 rfl) ?_
  refine hx_goi (hx_runS (As := [.int i1]) (rest := []) ⟨hx, hb, hml, hown, hts⟩ hW (t_X10_isDay l dC dI dA L h s.heap.size i1 hT) (va_cwS 1 hts (hx_gS kw_1464 kw_1462 kw_1463 kw_103) rfl rfl rfl (by decide +kernel) ⟨Nat.le_of_ble_eq_true rfl, Nat.le_of_ble_eq_true rfl⟩) rfl hl.1 rfl (Nat.le_of_ble_eq_true rfl) dX10_force_1 ⟨Nat.le_of_ble_eq_true rfl, Nat.le_of_ble_eq_true rfl⟩) hW (fun r_3 L_1 h_2 H locs p_4 hW => ?_)
  obtain ⟨hr_5, hT, hs⟩ := p_4
  replace hT : hx_T T_tb L_1 h_2 := hT
  replace hs : hx_S T_tb [] L h L_1 h_2 := hs
  replace hM := hM.tr (hs.mono ?o0)
  case o0 => decide
  refine hb_if_eq (zx := r_3.toInt) (tgt := 17) hx hb rfl dX10_force_4 ?o1 (fun c_6 => ?_) (fun c_6 => ?_)
  case o1 => decide
  · skip
    replace hr_5 := hr_5.resolve_right (fun z9 => absurd (c_6.symm.trans z9.1) ?o2)
    case o2 => decide
    replace hr_5 := hr_5.2
    refine lv_iconst (v := -1) hx hb dX10_force_17 ?o3 ?_
    case o3 => decide
    refine hx_reti hx hb hr hlk hW ⟨(Or.inl ⟨?o4, ?o5⟩), hT, hM⟩ dX10_force_18
    case o4 => omega
    case o5 => decide
  · skip
    replace hr_5 := hr_5.resolve_left (fun z9 => c_6 z9.1)
    replace c_6 := hr_5.1
    replace hr_5 := hr_5.2
    refine lv_iload_n hx hb dX10_force_7 rfl (lv_at hl 2 rfl) ?_
    refine lv_iconst (v := 0) hx hb dX10_force_8 ?o6 ?_
    case o6 => decide
    refine lv_bipush (v := 13) hx hb dX10_force_9 ?o7 ?_
    case o7 => decide
    have zc_13 : (13 : Int32).toInt = 13 := ?o8
    case o8 => decide
    have zc_0 : (0 : Int32).toInt = 0 := ?o9
    case o9 => decide
    refine hx_goi (hx_runS (As := [.int i2, .int (0 : Int32), .int (13 : Int32)]) (rest := []) ⟨hx, hb, hml, hown, hts⟩ hW (t_X10_in l dC dI dA L_1 h_2 H.size i2 (0 : Int32) (13 : Int32) hT) (va_cwS 3 hts (hx_gS kw_1445 kw_1443 kw_1444 kw_103) rfl rfl rfl (by decide +kernel) ⟨Nat.le_of_ble_eq_true rfl, Nat.le_of_ble_eq_true rfl⟩) rfl hl.1 rfl (Nat.le_of_ble_eq_true rfl) dX10_force_11 ⟨Nat.le_of_ble_eq_true rfl, Nat.le_of_ble_eq_true rfl⟩) hW (fun r_9 L_7 h_8 H locs p_10 hW => ?_)
    obtain ⟨hr_11, hT, hs⟩ := p_10
    replace hT : hx_T T_tb L_7 h_8 := hT
    replace hs : hx_S T_tb [] L_1 h_2 L_7 h_8 := hs
    replace hM := hM.tr (hs.mono ?o10)
    case o10 => decide
    refine hb_if_ne (zx := r_9.toInt) (tgt := 19) hx hb rfl dX10_force_14 ?o11 (fun c_12 => ?_) (fun c_12 => ?_)
    case o11 => decide
    · skip
      replace hr_11 := hr_11.resolve_left (fun z9 => c_12 z9.1)
      replace c_12 := hr_11.1
      replace hr_11 := hr_11.2
      refine lv_aload_n hx hb dX10_force_19 rfl (lv_at hl 0 rfl) ?_
      refine lv_iload_n hx hb dX10_force_20 rfl (lv_at hl 1 rfl) ?_
      refine hx_goi (hx_runV (As := [.int i1]) (rest := []) ⟨hx, hb, hml, hown, hts⟩ hW (gx.S hM) tt_10 (T := TX10) (N := 98) rfl (t_X10_inForce_v l dC dI dA L_7 h_8 H.size x i1 hT (gx.S hM) qd (gqd.S hM) ((hM.o gx trivial rfl).2.trans f_x_2) ql (gql.S hM) ((hM.o gx trivial rfl).2.trans f_x_3) qn (gqn.S hM) ((hM.o gx trivial rfl).2.trans f_x_4) qp (gqp.S hM) ((hM.o gx trivial rfl).2.trans f_x_5) adf (hx_afS hM gqd rfl af_qd) rf (hx_afS hM gql rfl af_ql) psf (hx_afS hM gqn rfl af_qn) prf (hx_afS hM gqp rfl af_qp) a0 ((hM.o gx trivial rfl).1.trans f_x_1) A hCA) (cwV 1 hts (hx_gV kw_1529 kw_1526 kw_1528 kw_65 kw_103) rfl rfl rfl (by decide +kernel) ⟨Nat.le_of_ble_eq_true rfl, Nat.le_of_ble_eq_true rfl⟩) rfl hl.1 rfl (Nat.le_of_ble_eq_true rfl) dX10_force_21 ⟨Nat.le_of_ble_eq_true rfl, Nat.le_of_ble_eq_true rfl⟩) hW (fun r_15 L_13 h_14 H locs p_16 hW => ?_)
      obtain ⟨hr_17, hT, hs⟩ := p_16
      replace hT : hx_T T_tb L_13 h_14 := hT
      replace hs : hx_S T_tb [] L_7 h_8 L_13 h_14 := hs
      replace hM := hM.tr (hs.mono ?o12)
      case o12 => decide
      refine lv_istore_n (lv' := [(3, .int r_15), (0, .ref x), (1, .int i1), (2, .int i2)]) hx hb dX10_force_24 rfl hl ?o13 rfl (fun ls hl => ?_)
      case o13 => decide
      refine lv_iload_n hx hb dX10_force_25 rfl (lv_at hl 3 rfl) ?_
      refine hb_if_ne (zx := i2.toInt) (tgt := 35) hx hb rfl dX10_force_26 ?o14 (fun c_18 => ?_) (fun c_18 => ?_)
      case o14 => decide
      · skip
        refine lv_aload_n hx hb dX10_force_35 rfl (lv_at hl 1 rfl) ?_
        refine lv_iload_n hx hb dX10_force_36 rfl (lv_at hl 0 rfl) ?_
        refine lv_iload_n hx hb dX10_force_37 rfl (lv_at hl 3 rfl) ?_
        refine lv_iconst (v := 1) hx hb dX10_force_38 ?o15 ?_
        case o15 => decide
        refine lv_isub hx hb dX10_force_39 ?_
        have rg_19 := i32_r i2
        refine lv_topi (fun x_20 ex_20 => ?_)
        have zx_20 : x_20.toInt = i2.toInt - 1 := ?o16
        case o16 =>
          rw [ex_20]
          refine i32_sub rfl ?o17 ?o18 ?o19
          case o17 => decide
          case o18 => omega
          case o19 => omega
        refine hx_goi (hx_runV (As := [.int r_15, .int x_20]) (rest := []) ⟨hx, hb, hml, hown, hts⟩ hW (gx.S hM) tt_10 (T := TX10) (N := 98) rfl (t_X10_ruleOf_v l dC dI dA L_13 h_14 H.size x r_15 x_20 hT (gx.S hM) ql (gql.S hM) ((hM.o gx trivial rfl).2.trans f_x_3) rf (hx_afS hM gql rfl af_ql) ⟨?o20, ?o21⟩ ⟨?o22, ?o23⟩) (cwV 2 hts (hx_gV kw_1533 kw_1530 kw_1532 kw_66 kw_103) rfl rfl rfl (by decide +kernel) ⟨Nat.le_of_ble_eq_true rfl, Nat.le_of_ble_eq_true rfl⟩) rfl hl.1 rfl (Nat.le_of_ble_eq_true rfl) dX10_force_40 ⟨Nat.le_of_ble_eq_true rfl, Nat.le_of_ble_eq_true rfl⟩) hW (fun r_23 L_21 h_22 H locs p_24 hW => ?_)
        case o20 => omega
        case o21 => omega
        case o22 => omega
        case o23 => omega
        obtain ⟨hr_25, hT, hs⟩ := p_24
        replace hT : hx_T T_tb L_21 h_22 := hT
        replace hs : hx_S T_tb [] L_13 h_14 L_21 h_22 := hs
        replace hM := hM.tr (hs.mono ?o24)
        case o24 => decide
        refine hx_reti hx hb hr hlk hW ⟨(Or.inr ⟨?o25, Or.inr ⟨?o26, (by have h8 := (hCA.2 (hv_IF A i1.toInt a0.toInt.toNat) (by have := hv_IF_b (A := A) (d := i1.toInt) a0.toInt.toNat; omega)).2.1; rw [← h8, hr_25.1]; show _ = (if (i2.toInt - 1).toNat < 13 then (_ : Int32).toInt else 0); rw [if_pos (by omega)]; congr 2; omega)⟩⟩), hT, hM⟩ dX10_force_43
        case o25 => omega
        case o26 => omega
      · skip
        refine lv_iload_n hx hb dX10_force_29 rfl (lv_at hl 0 rfl) ?_
        refine lv_iconst (v := 1) hx hb dX10_force_30 ?o27 ?_
        case o27 => decide
        refine lv_isub hx hb dX10_force_31 ?_
        have rg_26 := i32_r r_15
        refine lv_topi (fun x_27 ex_27 => ?_)
        have zx_27 : x_27.toInt = r_15.toInt - 1 := ?o28
        case o28 =>
          rw [ex_27]
          refine i32_sub rfl ?o29 ?o30 ?o31
          case o29 => decide
          case o30 => omega
          case o31 => omega
        refine lv_goto (tgt := 43) hx hb dX10_force_32 ?o32 ?_
        case o32 => decide
        refine hx_reti hx hb hr hlk hW ⟨(Or.inr ⟨?o33, Or.inl ⟨?o34, ?o35⟩⟩), hT, hM⟩ dX10_force_43
        case o33 => omega
        case o34 => omega
        case o35 => omega
    · skip
      replace hr_11 := hr_11.resolve_right (fun z9 => absurd (c_12.symm.trans z9.1) ?o36)
      case o36 => decide
      replace hr_11 := hr_11.2
      refine lv_iconst (v := -1) hx hb dX10_force_17 ?o37 ?_
      case o37 => decide
      refine hx_reti hx hb hr hlk hW ⟨(Or.inl ⟨?o38, ?o39⟩), hT, hM⟩ dX10_force_18
      case o38 => omega
      case o39 => decide
end
