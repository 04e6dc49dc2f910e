theorem dX10_without_0 : decode cX10_without 0 = .ok (.iload_n 0, 1) := by decide +kernel
theorem dX10_without_1 : decode cX10_without 1 = .ok (.tableswitch 76 0 8 #[51, 55, 58, 61, 64, 66, 68, 70, 73], 51) := by decide +kernel
theorem dX10_without_52 : decode cX10_without 52 = .ok (.sipush 480, 3) := by decide +kernel
theorem dX10_without_55 : decode cX10_without 55 = .ok (.ireturn, 1) := by decide +kernel
set_option maxHeartbeats 4000000 in
set_option maxRecDepth 100000 in
theorem c_X10_without_0 (l : Launch) (dC : Nat → ClassId) (dI : Nat → Nat → Nat) (dA : Nat → ClassId) (L : List Nat) (h : hx_h) (sz : Nat)    : Met l yX10_without (Cond.code yX10_without cX10_without 1 (some .int) :: hx_all) ({ frames := 0, cells := 0, slots := 0, locals := 0 }) (va_Pc [.int (0 : Int32)] (hx_B P_tb (P_ty dA) (dC, dI) vwCl L h sz)) (va_Qi (fun (r : Int32) (u : List Nat × hx_h) => r = 480 ∧ u = (L, h)) (hx_E P_tb (P_ty dA) (dC, dI) vwCl (hx_A L sz)) (hx_A L sz)) 0 0 (hx_A L sz) := by
  refine hx_met (lv := [(0, .int (0 : Int32))]) (by decide +kernel) rfl (Nat.le_of_ble_eq_true rfl) rfl ?_
  intro p e s m below meth c hx hb hml hr hlk hts0 hown hin hsz hW ls hl
  have hts : ∀ w ∈ hx_all, w.before _ s = true := fun w hw => hts0 w (List.mem_cons_of_mem _ hw)
  have hown : s.vm.findClass "SmallCourtModel" = some m.cls := hown
  refine lv_iload_n hx hb dX10_without_0 rfl (lv_at hl 0 rfl) ?_
  refine lv_tableIn (off := 51) (tgt := 52) hx hb dX10_without_1 (by decide) (by decide) rfl (by decide) ?_
  refine lv_sipush (v := 480) hx hb dX10_without_52 (by decide) ?_
  exact hx_reti hx hb hr hlk hW ⟨rfl, rfl⟩ dX10_without_55


theorem dX10_without_56 : decode cX10_without 56 = .ok (.bipush 30, 2) := by decide +kernel
theorem dX10_without_58 : decode cX10_without 58 = .ok (.ireturn, 1) := by decide +kernel
set_option maxHeartbeats 4000000 in
set_option maxRecDepth 100000 in
theorem c_X10_without_1 (l : Launch) (dC : Nat → ClassId) (dI : Nat → Nat → Nat) (dA : Nat → ClassId) (L : List Nat) (h : hx_h) (sz : Nat)    : Met l yX10_without (Cond.code yX10_without cX10_without 1 (some .int) :: hx_all) ({ frames := 0, cells := 0, slots := 0, locals := 0 }) (va_Pc [.int (1 : Int32)] (hx_B P_tb (P_ty dA) (dC, dI) vwCl L h sz)) (va_Qi (fun (r : Int32) (u : List Nat × hx_h) => r = 30 ∧ u = (L, h)) (hx_E P_tb (P_ty dA) (dC, dI) vwCl (hx_A L sz)) (hx_A L sz)) 0 0 (hx_A L sz) := by
  refine hx_met (lv := [(0, .int (1 : Int32))]) (by decide +kernel) rfl (Nat.le_of_ble_eq_true rfl) rfl ?_
  intro p e s m below meth c hx hb hml hr hlk hts0 hown hin hsz hW ls hl
  have hts : ∀ w ∈ hx_all, w.before _ s = true := fun w hw => hts0 w (List.mem_cons_of_mem _ hw)
  have hown : s.vm.findClass "SmallCourtModel" = some m.cls := hown
  refine lv_iload_n hx hb dX10_without_0 rfl (lv_at hl 0 rfl) ?_
  refine lv_tableIn (off := 55) (tgt := 56) hx hb dX10_without_1 (by decide) (by decide) rfl (by decide) ?_
  refine lv_bipush (v := 30) hx hb dX10_without_56 (by decide) ?_
  exact hx_reti hx hb hr hlk hW ⟨rfl, rfl⟩ dX10_without_58


theorem dX10_without_59 : decode cX10_without 59 = .ok (.bipush 12, 2) := by decide +kernel
theorem dX10_without_61 : decode cX10_without 61 = .ok (.ireturn, 1) := by decide +kernel
set_option maxHeartbeats 4000000 in
set_option maxRecDepth 100000 in
theorem c_X10_without_2 (l : Launch) (dC : Nat → ClassId) (dI : Nat → Nat → Nat) (dA : Nat → ClassId) (L : List Nat) (h : hx_h) (sz : Nat)    : Met l yX10_without (Cond.code yX10_without cX10_without 1 (some .int) :: hx_all) ({ frames := 0, cells := 0, slots := 0, locals := 0 }) (va_Pc [.int (2 : Int32)] (hx_B P_tb (P_ty dA) (dC, dI) vwCl L h sz)) (va_Qi (fun (r : Int32) (u : List Nat × hx_h) => r = 12 ∧ u = (L, h)) (hx_E P_tb (P_ty dA) (dC, dI) vwCl (hx_A L sz)) (hx_A L sz)) 0 0 (hx_A L sz) := by
  refine hx_met (lv := [(0, .int (2 : Int32))]) (by decide +kernel) rfl (Nat.le_of_ble_eq_true rfl) rfl ?_
  intro p e s m below meth c hx hb hml hr hlk hts0 hown hin hsz hW ls hl
  have hts : ∀ w ∈ hx_all, w.before _ s = true := fun w hw => hts0 w (List.mem_cons_of_mem _ hw)
  have hown : s.vm.findClass "SmallCourtModel" = some m.cls := hown
  refine lv_iload_n hx hb dX10_without_0 rfl (lv_at hl 0 rfl) ?_
  refine lv_tableIn (off := 58) (tgt := 59) hx hb dX10_without_1 (by decide) (by decide) rfl (by decide) ?_
  refine lv_bipush (v := 12) hx hb dX10_without_59 (by decide) ?_
  exact hx_reti hx hb hr hlk hW ⟨rfl, rfl⟩ dX10_without_61


theorem dX10_without_62 : decode cX10_without 62 = .ok (.bipush 60, 2) := by decide +kernel
theorem dX10_without_64 : decode cX10_without 64 = .ok (.ireturn, 1) := by decide +kernel
set_option maxHeartbeats 4000000 in
set_option maxRecDepth 100000 in
theorem c_X10_without_3 (l : Launch) (dC : Nat → ClassId) (dI : Nat → Nat → Nat) (dA : Nat → ClassId) (L : List Nat) (h : hx_h) (sz : Nat)    : Met l yX10_without (Cond.code yX10_without cX10_without 1 (some .int) :: hx_all) ({ frames := 0, cells := 0, slots := 0, locals := 0 }) (va_Pc [.int (3 : Int32)] (hx_B P_tb (P_ty dA) (dC, dI) vwCl L h sz)) (va_Qi (fun (r : Int32) (u : List Nat × hx_h) => r = 60 ∧ u = (L, h)) (hx_E P_tb (P_ty dA) (dC, dI) vwCl (hx_A L sz)) (hx_A L sz)) 0 0 (hx_A L sz) := by
  refine hx_met (lv := [(0, .int (3 : Int32))]) (by decide +kernel) rfl (Nat.le_of_ble_eq_true rfl) rfl ?_
  intro p e s m below meth c hx hb hml hr hlk hts0 hown hin hsz hW ls hl
  have hts : ∀ w ∈ hx_all, w.before _ s = true := fun w hw => hts0 w (List.mem_cons_of_mem _ hw)
  have hown : s.vm.findClass "SmallCourtModel" = some m.cls := hown
  refine lv_iload_n hx hb dX10_without_0 rfl (lv_at hl 0 rfl) ?_
  refine lv_tableIn (off := 61) (tgt := 62) hx hb dX10_without_1 (by decide) (by decide) rfl (by decide) ?_
  refine lv_bipush (v := 60) hx hb dX10_without_62 (by decide) ?_
  exact hx_reti hx hb hr hlk hW ⟨rfl, rfl⟩ dX10_without_64


theorem dX10_without_65 : decode cX10_without 65 = .ok (.iconst 2, 1) := by decide +kernel
theorem dX10_without_66 : decode cX10_without 66 = .ok (.ireturn, 1) := by decide +kernel
set_option maxHeartbeats 4000000 in
set_option maxRecDepth 100000 in
theorem c_X10_without_4 (l : Launch) (dC : Nat → ClassId) (dI : Nat → Nat → Nat) (dA : Nat → ClassId) (L : List Nat) (h : hx_h) (sz : Nat)    : Met l yX10_without (Cond.code yX10_without cX10_without 1 (some .int) :: hx_all) ({ frames := 0, cells := 0, slots := 0, locals := 0 }) (va_Pc [.int (4 : Int32)] (hx_B P_tb (P_ty dA) (dC, dI) vwCl L h sz)) (va_Qi (fun (r : Int32) (u : List Nat × hx_h) => r = 2 ∧ u = (L, h)) (hx_E P_tb (P_ty dA) (dC, dI) vwCl (hx_A L sz)) (hx_A L sz)) 0 0 (hx_A L sz) := by
  refine hx_met (lv := [(0, .int (4 : Int32))]) (by decide +kernel) rfl (Nat.le_of_ble_eq_true rfl) rfl ?_
  intro p e s m below meth c hx hb hml hr hlk hts0 hown hin hsz hW ls hl
  have hts : ∀ w ∈ hx_all, w.before _ s = true := fun w hw => hts0 w (List.mem_cons_of_mem _ hw)
  have hown : s.vm.findClass "SmallCourtModel" = some m.cls := hown
  refine lv_iload_n hx hb dX10_without_0 rfl (lv_at hl 0 rfl) ?_
  refine lv_tableIn (off := 64) (tgt := 65) hx hb dX10_without_1 (by decide) (by decide) rfl (by decide) ?_
  refine lv_iconst (v := 2) hx hb dX10_without_65 (by decide) ?_
  exact hx_reti hx hb hr hlk hW ⟨rfl, rfl⟩ dX10_without_66


theorem dX10_without_67 : decode cX10_without 67 = .ok (.iconst 4, 1) := by decide +kernel
theorem dX10_without_68 : decode cX10_without 68 = .ok (.ireturn, 1) := by decide +kernel
set_option maxHeartbeats 4000000 in
set_option maxRecDepth 100000 in
theorem c_X10_without_5 (l : Launch) (dC : Nat → ClassId) (dI : Nat → Nat → Nat) (dA : Nat → ClassId) (L : List Nat) (h : hx_h) (sz : Nat)    : Met l yX10_without (Cond.code yX10_without cX10_without 1 (some .int) :: hx_all) ({ frames := 0, cells := 0, slots := 0, locals := 0 }) (va_Pc [.int (5 : Int32)] (hx_B P_tb (P_ty dA) (dC, dI) vwCl L h sz)) (va_Qi (fun (r : Int32) (u : List Nat × hx_h) => r = 4 ∧ u = (L, h)) (hx_E P_tb (P_ty dA) (dC, dI) vwCl (hx_A L sz)) (hx_A L sz)) 0 0 (hx_A L sz) := by
  refine hx_met (lv := [(0, .int (5 : Int32))]) (by decide +kernel) rfl (Nat.le_of_ble_eq_true rfl) rfl ?_
  intro p e s m below meth c hx hb hml hr hlk hts0 hown hin hsz hW ls hl
  have hts : ∀ w ∈ hx_all, w.before _ s = true := fun w hw => hts0 w (List.mem_cons_of_mem _ hw)
  have hown : s.vm.findClass "SmallCourtModel" = some m.cls := hown
  refine lv_iload_n hx hb dX10_without_0 rfl (lv_at hl 0 rfl) ?_
  refine lv_tableIn (off := 66) (tgt := 67) hx hb dX10_without_1 (by decide) (by decide) rfl (by decide) ?_
  refine lv_iconst (v := 4) hx hb dX10_without_67 (by decide) ?_
  exact hx_reti hx hb hr hlk hW ⟨rfl, rfl⟩ dX10_without_68


theorem dX10_without_69 : decode cX10_without 69 = .ok (.iconst 1, 1) := by decide +kernel
theorem dX10_without_70 : decode cX10_without 70 = .ok (.ireturn, 1) := by decide +kernel
set_option maxHeartbeats 4000000 in
set_option maxRecDepth 100000 in
theorem c_X10_without_6 (l : Launch) (dC : Nat → ClassId) (dI : Nat → Nat → Nat) (dA : Nat → ClassId) (L : List Nat) (h : hx_h) (sz : Nat)    : Met l yX10_without (Cond.code yX10_without cX10_without 1 (some .int) :: hx_all) ({ frames := 0, cells := 0, slots := 0, locals := 0 }) (va_Pc [.int (6 : Int32)] (hx_B P_tb (P_ty dA) (dC, dI) vwCl L h sz)) (va_Qi (fun (r : Int32) (u : List Nat × hx_h) => r = 1 ∧ u = (L, h)) (hx_E P_tb (P_ty dA) (dC, dI) vwCl (hx_A L sz)) (hx_A L sz)) 0 0 (hx_A L sz) := by
  refine hx_met (lv := [(0, .int (6 : Int32))]) (by decide +kernel) rfl (Nat.le_of_ble_eq_true rfl) rfl ?_
  intro p e s m below meth c hx hb hml hr hlk hts0 hown hin hsz hW ls hl
  have hts : ∀ w ∈ hx_all, w.before _ s = true := fun w hw => hts0 w (List.mem_cons_of_mem _ hw)
  have hown : s.vm.findClass "SmallCourtModel" = some m.cls := hown
  refine lv_iload_n hx hb dX10_without_0 rfl (lv_at hl 0 rfl) ?_
  refine lv_tableIn (off := 68) (tgt := 69) hx hb dX10_without_1 (by decide) (by decide) rfl (by decide) ?_
  refine lv_iconst (v := 1) hx hb dX10_without_69 (by decide) ?_
  exact hx_reti hx hb hr hlk hW ⟨rfl, rfl⟩ dX10_without_70


theorem dX10_without_71 : decode cX10_without 71 = .ok (.bipush 40, 2) := by decide +kernel
theorem dX10_without_73 : decode cX10_without 73 = .ok (.ireturn, 1) := by decide +kernel
set_option maxHeartbeats 4000000 in
set_option maxRecDepth 100000 in
theorem c_X10_without_7 (l : Launch) (dC : Nat → ClassId) (dI : Nat → Nat → Nat) (dA : Nat → ClassId) (L : List Nat) (h : hx_h) (sz : Nat)    : Met l yX10_without (Cond.code yX10_without cX10_without 1 (some .int) :: hx_all) ({ frames := 0, cells := 0, slots := 0, locals := 0 }) (va_Pc [.int (7 : Int32)] (hx_B P_tb (P_ty dA) (dC, dI) vwCl L h sz)) (va_Qi (fun (r : Int32) (u : List Nat × hx_h) => r = 40 ∧ u = (L, h)) (hx_E P_tb (P_ty dA) (dC, dI) vwCl (hx_A L sz)) (hx_A L sz)) 0 0 (hx_A L sz) := by
  refine hx_met (lv := [(0, .int (7 : Int32))]) (by decide +kernel) rfl (Nat.le_of_ble_eq_true rfl) rfl ?_
  intro p e s m below meth c hx hb hml hr hlk hts0 hown hin hsz hW ls hl
  have hts : ∀ w ∈ hx_all, w.before _ s = true := fun w hw => hts0 w (List.mem_cons_of_mem _ hw)
  have hown : s.vm.findClass "SmallCourtModel" = some m.cls := hown
  refine lv_iload_n hx hb dX10_without_0 rfl (lv_at hl 0 rfl) ?_
  refine lv_tableIn (off := 70) (tgt := 71) hx hb dX10_without_1 (by decide) (by decide) rfl (by decide) ?_
  refine lv_bipush (v := 40) hx hb dX10_without_71 (by decide) ?_
  exact hx_reti hx hb hr hlk hW ⟨rfl, rfl⟩ dX10_without_73


theorem dX10_without_74 : decode cX10_without 74 = .ok (.bipush 21, 2) := by decide +kernel
theorem dX10_without_76 : decode cX10_without 76 = .ok (.ireturn, 1) := by decide +kernel
set_option maxHeartbeats 4000000 in
set_option maxRecDepth 100000 in
theorem c_X10_without_8 (l : Launch) (dC : Nat → ClassId) (dI : Nat → Nat → Nat) (dA : Nat → ClassId) (L : List Nat) (h : hx_h) (sz : Nat)    : Met l yX10_without (Cond.code yX10_without cX10_without 1 (some .int) :: hx_all) ({ frames := 0, cells := 0, slots := 0, locals := 0 }) (va_Pc [.int (8 : Int32)] (hx_B P_tb (P_ty dA) (dC, dI) vwCl L h sz)) (va_Qi (fun (r : Int32) (u : List Nat × hx_h) => r = 21 ∧ u = (L, h)) (hx_E P_tb (P_ty dA) (dC, dI) vwCl (hx_A L sz)) (hx_A L sz)) 0 0 (hx_A L sz) := by
  refine hx_met (lv := [(0, .int (8 : Int32))]) (by decide +kernel) rfl (Nat.le_of_ble_eq_true rfl) rfl ?_
  intro p e s m below meth c hx hb hml hr hlk hts0 hown hin hsz hW ls hl
  have hts : ∀ w ∈ hx_all, w.before _ s = true := fun w hw => hts0 w (List.mem_cons_of_mem _ hw)
  have hown : s.vm.findClass "SmallCourtModel" = some m.cls := hown
  refine lv_iload_n hx hb dX10_without_0 rfl (lv_at hl 0 rfl) ?_
  refine lv_tableIn (off := 73) (tgt := 74) hx hb dX10_without_1 (by decide) (by decide) rfl (by decide) ?_
  refine lv_bipush (v := 21) hx hb dX10_without_74 (by decide) ?_
  exact hx_reti hx hb hr hlk hW ⟨rfl, rfl⟩ dX10_without_76


theorem dX10_without_77 : decode cX10_without 77 = .ok (.iconst 0, 1) := by decide +kernel
theorem dX10_without_78 : decode cX10_without 78 = .ok (.ireturn, 1) := by decide +kernel
set_option maxHeartbeats 4000000 in
set_option maxRecDepth 100000 in
theorem c_X10_without_9 (l : Launch) (dC : Nat → ClassId) (dI : Nat → Nat → Nat) (dA : Nat → ClassId) (L : List Nat) (h : hx_h) (sz : Nat)    : Met l yX10_without (Cond.code yX10_without cX10_without 1 (some .int) :: hx_all) ({ frames := 0, cells := 0, slots := 0, locals := 0 }) (va_Pc [.int (9 : Int32)] (hx_B P_tb (P_ty dA) (dC, dI) vwCl L h sz)) (va_Qi (fun (r : Int32) (u : List Nat × hx_h) => r = 0 ∧ u = (L, h)) (hx_E P_tb (P_ty dA) (dC, dI) vwCl (hx_A L sz)) (hx_A L sz)) 0 0 (hx_A L sz) := by
  refine hx_met (lv := [(0, .int (9 : Int32))]) (by decide +kernel) rfl (Nat.le_of_ble_eq_true rfl) rfl ?_
  intro p e s m below meth c hx hb hml hr hlk hts0 hown hin hsz hW ls hl
  have hts : ∀ w ∈ hx_all, w.before _ s = true := fun w hw => hts0 w (List.mem_cons_of_mem _ hw)
  have hown : s.vm.findClass "SmallCourtModel" = some m.cls := hown
  refine lv_iload_n hx hb dX10_without_0 rfl (lv_at hl 0 rfl) ?_
  refine lv_tableOut (tgt := 77) hx hb dX10_without_1 (by decide) (by decide) ?_
  refine lv_iconst (v := 0) hx hb dX10_without_77 (by decide) ?_
  exact hx_reti hx hb hr hlk hW ⟨rfl, rfl⟩ dX10_without_78



set_option maxHeartbeats 4000000 in
set_option maxRecDepth 100000 in
theorem c_X10_without_10 (l : Launch) (dC : Nat → ClassId) (dI : Nat → Nat → Nat) (dA : Nat → ClassId) (L : List Nat) (h : hx_h) (sz : Nat)    : Met l yX10_without (Cond.code yX10_without cX10_without 1 (some .int) :: hx_all) ({ frames := 0, cells := 0, slots := 0, locals := 0 }) (va_Pc [.int (10 : Int32)] (hx_B P_tb (P_ty dA) (dC, dI) vwCl L h sz)) (va_Qi (fun (r : Int32) (u : List Nat × hx_h) => r = 0 ∧ u = (L, h)) (hx_E P_tb (P_ty dA) (dC, dI) vwCl (hx_A L sz)) (hx_A L sz)) 0 0 (hx_A L sz) := by
  refine hx_met (lv := [(0, .int (10 : Int32))]) (by decide +kernel) rfl (Nat.le_of_ble_eq_true rfl) rfl ?_
  intro p e s m below meth c hx hb hml hr hlk hts0 hown hin hsz hW ls hl
  have hts : ∀ w ∈ hx_all, w.before _ s = true := fun w hw => hts0 w (List.mem_cons_of_mem _ hw)
  have hown : s.vm.findClass "SmallCourtModel" = some m.cls := hown
  refine lv_iload_n hx hb dX10_without_0 rfl (lv_at hl 0 rfl) ?_
  refine lv_tableOut (tgt := 77) hx hb dX10_without_1 (by decide) (by decide) ?_
  refine lv_iconst (v := 0) hx hb dX10_without_77 (by decide) ?_
  exact hx_reti hx hb hr hlk hW ⟨rfl, rfl⟩ dX10_without_78



set_option maxHeartbeats 4000000 in
set_option maxRecDepth 100000 in
theorem c_X10_without_11 (l : Launch) (dC : Nat → ClassId) (dI : Nat → Nat → Nat) (dA : Nat → ClassId) (L : List Nat) (h : hx_h) (sz : Nat)    : Met l yX10_without (Cond.code yX10_without cX10_without 1 (some .int) :: hx_all) ({ frames := 0, cells := 0, slots := 0, locals := 0 }) (va_Pc [.int (11 : Int32)] (hx_B P_tb (P_ty dA) (dC, dI) vwCl L h sz)) (va_Qi (fun (r : Int32) (u : List Nat × hx_h) => r = 0 ∧ u = (L, h)) (hx_E P_tb (P_ty dA) (dC, dI) vwCl (hx_A L sz)) (hx_A L sz)) 0 0 (hx_A L sz) := by
  refine hx_met (lv := [(0, .int (11 : Int32))]) (by decide +kernel) rfl (Nat.le_of_ble_eq_true rfl) rfl ?_
  intro p e s m below meth c hx hb hml hr hlk hts0 hown hin hsz hW ls hl
  have hts : ∀ w ∈ hx_all, w.before _ s = true := fun w hw => hts0 w (List.mem_cons_of_mem _ hw)
  have hown : s.vm.findClass "SmallCourtModel" = some m.cls := hown
  refine lv_iload_n hx hb dX10_without_0 rfl (lv_at hl 0 rfl) ?_
  refine lv_tableOut (tgt := 77) hx hb dX10_without_1 (by decide) (by decide) ?_
  refine lv_iconst (v := 0) hx hb dX10_without_77 (by decide) ?_
  exact hx_reti hx hb hr hlk hW ⟨rfl, rfl⟩ dX10_without_78



set_option maxHeartbeats 4000000 in
set_option maxRecDepth 100000 in
theorem c_X10_without_12 (l : Launch) (dC : Nat → ClassId) (dI : Nat → Nat → Nat) (dA : Nat → ClassId) (L : List Nat) (h : hx_h) (sz : Nat)    : Met l yX10_without (Cond.code yX10_without cX10_without 1 (some .int) :: hx_all) ({ frames := 0, cells := 0, slots := 0, locals := 0 }) (va_Pc [.int (12 : Int32)] (hx_B P_tb (P_ty dA) (dC, dI) vwCl L h sz)) (va_Qi (fun (r : Int32) (u : List Nat × hx_h) => r = 0 ∧ u = (L, h)) (hx_E P_tb (P_ty dA) (dC, dI) vwCl (hx_A L sz)) (hx_A L sz)) 0 0 (hx_A L sz) := by
  refine hx_met (lv := [(0, .int (12 : Int32))]) (by decide +kernel) rfl (Nat.le_of_ble_eq_true rfl) rfl ?_
  intro p e s m below meth c hx hb hml hr hlk hts0 hown hin hsz hW ls hl
  have hts : ∀ w ∈ hx_all, w.before _ s = true := fun w hw => hts0 w (List.mem_cons_of_mem _ hw)
  have hown : s.vm.findClass "SmallCourtModel" = some m.cls := hown
  refine lv_iload_n hx hb dX10_without_0 rfl (lv_at hl 0 rfl) ?_
  refine lv_tableOut (tgt := 77) hx hb dX10_without_1 (by decide) (by decide) ?_
  refine lv_iconst (v := 0) hx hb dX10_without_77 (by decide) ?_
  exact hx_reti hx hb hr hlk hW ⟨rfl, rfl⟩ dX10_without_78


theorem dX10_compareOf_0 : decode cX10_compareOf 0 = .ok (.ldc_w 268, 3) := by decide +kernel
theorem dX10_compareOf_3 : decode cX10_compareOf 3 = .ok (.iconst 1, 1) := by decide +kernel
theorem dX10_compareOf_4 : decode cX10_compareOf 4 = .ok (.iload_n 0, 1) := by decide +kernel
theorem dX10_compareOf_5 : decode cX10_compareOf 5 = .ok (.iadd, 1) := by decide +kernel
theorem dX10_compareOf_6 : decode cX10_compareOf 6 = .ok (.imul, 1) := by decide +kernel
theorem dX10_compareOf_7 : decode cX10_compareOf 7 = .ok (.ldc_w 269, 3) := by decide +kernel
theorem dX10_compareOf_10 : decode cX10_compareOf 10 = .ok (.iload_n 1, 1) := by decide +kernel
theorem dX10_compareOf_11 : decode cX10_compareOf 11 = .ok (.imul, 1) := by decide +kernel
theorem dX10_compareOf_12 : decode cX10_compareOf 12 = .ok (.iadd, 1) := by decide +kernel
theorem dX10_compareOf_13 : decode cX10_compareOf 13 = .ok (.iload_n 2, 1) := by decide +kernel
theorem dX10_compareOf_14 : decode cX10_compareOf 14 = .ok (.iadd, 1) := by decide +kernel
theorem dX10_compareOf_15 : decode cX10_compareOf 15 = .ok (.ireturn, 1) := by decide +kernel
set_option maxHeartbeats 4000000 in
set_option maxRecDepth 100000 in
theorem c_X10_compareOf_1200001 (l : Launch) (dC : Nat → ClassId) (dI : Nat → Nat → Nat) (dA : Nat → ClassId) (L : List Nat) (h : hx_h) (sz : Nat)    : Met l yX10_compareOf (Cond.code yX10_compareOf cX10_compareOf 3 (some .int) :: hx_all) ({ frames := 0, cells := 0, slots := 0, locals := 0 }) (va_Pc [.int (0 : Int32), .int (2 : Int32), .int (1 : Int32)] (hx_B P_tb (P_ty dA) (dC, dI) vwCl L h sz)) (va_Qi (fun (r : Int32) (u : List Nat × hx_h) => r = 1200001 ∧ u = (L, h)) (hx_E P_tb (P_ty dA) (dC, dI) vwCl (hx_A L sz)) (hx_A L sz)) 0 0 (hx_A L sz) := by
  refine hx_met (lv := [(0, .int (0 : Int32)), (1, .int (2 : Int32)), (2, .int (1 : Int32))]) (by decide +kernel) rfl (Nat.le_of_ble_eq_true rfl) rfl ?_
  intro p e s m below meth c hx hb hml hr hlk hts0 hown hin hsz hW ls hl
  have hts : ∀ w ∈ hx_all, w.before _ s = true := fun w hw => hts0 w (List.mem_cons_of_mem _ hw)
  have hown : s.vm.findClass "SmallCourtModel" = some m.cls := hown
  refine lv_ldcw (v := 1000000) hx hb hown (hts _ kw_1133) dX10_compareOf_0 ?_
  refine lv_iconst (v := 1) hx hb dX10_compareOf_3 (by decide) ?_
  refine lv_iload_n hx hb dX10_compareOf_4 rfl (lv_at hl 0 rfl) ?_
  refine lv_iadd hx hb dX10_compareOf_5 ?_
  refine lv_topi (fun x_1 ex_1 => ?_)
  obtain rfl : x_1 = (1 : Int32) := ex_1.trans (by decide)
  refine lv_imul hx hb dX10_compareOf_6 ?_
  refine lv_topi (fun x_2 ex_2 => ?_)
  obtain rfl : x_2 = (1000000 : Int32) := ex_2.trans (by decide)
  refine lv_ldcw (v := 100000) hx hb hown (hts _ kw_1134) dX10_compareOf_7 ?_
  refine lv_iload_n hx hb dX10_compareOf_10 rfl (lv_at hl 1 rfl) ?_
  refine lv_imul hx hb dX10_compareOf_11 ?_
  refine lv_topi (fun x_3 ex_3 => ?_)
  obtain rfl : x_3 = (200000 : Int32) := ex_3.trans (by decide)
  refine lv_iadd hx hb dX10_compareOf_12 ?_
  refine lv_topi (fun x_4 ex_4 => ?_)
  obtain rfl : x_4 = (1200000 : Int32) := ex_4.trans (by decide)
  refine lv_iload_n hx hb dX10_compareOf_13 rfl (lv_at hl 2 rfl) ?_
  refine lv_iadd hx hb dX10_compareOf_14 ?_
  refine lv_topi (fun x_5 ex_5 => ?_)
  obtain rfl : x_5 = (1200001 : Int32) := ex_5.trans (by decide)
  exact hx_reti hx hb hr hlk hW ⟨rfl, rfl⟩ dX10_compareOf_15



set_option maxHeartbeats 4000000 in
set_option maxRecDepth 100000 in
theorem c_X10_compareOf_2200000 (l : Launch) (dC : Nat → ClassId) (dI : Nat → Nat → Nat) (dA : Nat → ClassId) (L : List Nat) (h : hx_h) (sz : Nat)    : Met l yX10_compareOf (Cond.code yX10_compareOf cX10_compareOf 3 (some .int) :: hx_all) ({ frames := 0, cells := 0, slots := 0, locals := 0 }) (va_Pc [.int (1 : Int32), .int (2 : Int32), .int (0 : Int32)] (hx_B P_tb (P_ty dA) (dC, dI) vwCl L h sz)) (va_Qi (fun (r : Int32) (u : List Nat × hx_h) => r = 2200000 ∧ u = (L, h)) (hx_E P_tb (P_ty dA) (dC, dI) vwCl (hx_A L sz)) (hx_A L sz)) 0 0 (hx_A L sz) := by
  refine hx_met (lv := [(0, .int (1 : Int32)), (1, .int (2 : Int32)), (2, .int (0 : Int32))]) (by decide +kernel) rfl (Nat.le_of_ble_eq_true rfl) rfl ?_
  intro p e s m below meth c hx hb hml hr hlk hts0 hown hin hsz hW ls hl
  have hts : ∀ w ∈ hx_all, w.before _ s = true := fun w hw => hts0 w (List.mem_cons_of_mem _ hw)
  have hown : s.vm.findClass "SmallCourtModel" = some m.cls := hown
  refine lv_ldcw (v := 1000000) hx hb hown (hts _ kw_1133) dX10_compareOf_0 ?_
  refine lv_iconst (v := 1) hx hb dX10_compareOf_3 (by decide) ?_
  refine lv_iload_n hx hb dX10_compareOf_4 rfl (lv_at hl 0 rfl) ?_
  refine lv_iadd hx hb dX10_compareOf_5 ?_
  refine lv_topi (fun x_1 ex_1 => ?_)
  obtain rfl : x_1 = (2 : Int32) := ex_1.trans (by decide)
  refine lv_imul hx hb dX10_compareOf_6 ?_
  refine lv_topi (fun x_2 ex_2 => ?_)
  obtain rfl : x_2 = (2000000 : Int32) := ex_2.trans (by decide)
  refine lv_ldcw (v := 100000) hx hb hown (hts _ kw_1134) dX10_compareOf_7 ?_
  refine lv_iload_n hx hb dX10_compareOf_10 rfl (lv_at hl 1 rfl) ?_
  refine lv_imul hx hb dX10_compareOf_11 ?_
  refine lv_topi (fun x_3 ex_3 => ?_)
  obtain rfl : x_3 = (200000 : Int32) := ex_3.trans (by decide)
  refine lv_iadd hx hb dX10_compareOf_12 ?_
  refine lv_topi (fun x_4 ex_4 => ?_)
  obtain rfl : x_4 = (2200000 : Int32) := ex_4.trans (by decide)
  refine lv_iload_n hx hb dX10_compareOf_13 rfl (lv_at hl 2 rfl) ?_
  refine lv_iadd hx hb dX10_compareOf_14 ?_
  refine lv_topi (fun x_5 ex_5 => ?_)
  obtain rfl : x_5 = (2200000 : Int32) := ex_5.trans (by decide)
  exact hx_reti hx hb hr hlk hW ⟨rfl, rfl⟩ dX10_compareOf_15


theorem dX10_clears_0 : decode cX10_clears 0 = .ok (.aload_n 0, 1) := by decide +kernel
theorem dX10_clears_1 : decode cX10_clears 1 = .ok (.iconst 0, 1) := by decide +kernel
theorem dX10_clears_2 : decode cX10_clears 2 = .ok (.putfield 262, 3) := by decide +kernel
theorem dX10_clears_5 : decode cX10_clears 5 = .ok (.aload_n 0, 1) := by decide +kernel
theorem dX10_clears_6 : decode cX10_clears 6 = .ok (.iconst 0, 1) := by decide +kernel
theorem dX10_clears_7 : decode cX10_clears 7 = .ok (.putfield 274, 3) := by decide +kernel
theorem dX10_clears_10 : decode cX10_clears 10 = .ok (.aload_n 0, 1) := by decide +kernel
theorem dX10_clears_11 : decode cX10_clears 11 = .ok (.iconst 0, 1) := by decide +kernel
theorem dX10_clears_12 : decode cX10_clears 12 = .ok (.putfield 265, 3) := by decide +kernel
theorem dX10_clears_15 : decode cX10_clears 15 = .ok (.return_, 1) := by decide +kernel
set_option maxHeartbeats 4000000 in
set_option maxRecDepth 100000 in
theorem c_X10_clears (l : Launch) (dC : Nat → ClassId) (dI : Nat → Nat → Nat) (dA : Nat → ClassId) (L : List Nat) (h : hx_h) (sz : Nat) (y : Nat) (gy : hx_g L h y 10)  : Met l yX10_clears (Cond.code yX10_clears cX10_clears 1 none :: hx_all) ({ frames := 0, cells := 0, slots := 0, locals := 0 }) (va_Pc [.ref y] (hx_B P_tb (P_ty dA) (dC, dI) vwCl L h sz)) (va_Qv (fun (u : List Nat × hx_h) => hx_S P_tb [(10, 14), (10, 16), (10, 18)] L h u.1 u.2 ∧ u.2.2.1 y 14 = (0 : Int32)) (hx_E P_tb (P_ty dA) (dC, dI) vwCl (hx_A L sz)) (hx_A L sz)) 0 0 (hx_A L sz) := by
  refine hx_met (lv := [(0, .ref y)]) (by decide +kernel) rfl (Nat.le_of_ble_eq_true rfl) rfl ?_
  intro p e s m below meth c hx hb hml hr hlk hts0 hown hin hsz hW ls hl
  have hts : ∀ w ∈ hx_all, w.before _ s = true := fun w hw => hts0 w (List.mem_cons_of_mem _ hw)
  have hown : s.vm.findClass "SmallCourtModel" = some m.cls := hown
  have hM : hx_S P_tb [(10, 14), (10, 16), (10, 18)] L h L h := hx_S.rf
  refine lv_aload_n hx hb dX10_clears_0 rfl (lv_at hl 0 rfl) ?_
  refine lv_iconst (v := 0) hx hb dX10_clears_1 (by decide) ?_
  refine hk_puti hx hb hts hC_10 hown hW gy td_10 14 (by decide) rfl kw_1157 ⟨rfl, rfl, rfl⟩ rfl (x := (0 : Int32)) rfl rfl rfl dX10_clears_2 (fun H locs h_1 eh_1 hW hs => ?_)
  have hM := hM.tr (hs.mono (by decide))
  have gy := gy.S hs
  have f_2 : h_1.2.1 y 14 = (0 : Int32) := by rw [eh_1]; exact hx_pi_at _ _ _ _
  refine lv_aload_n hx hb dX10_clears_5 rfl (lv_at hl 0 rfl) ?_
  refine lv_iconst (v := 0) hx hb dX10_clears_6 (by decide) ?_
  refine hk_puti hx hb hts hC_10 hown hW gy td_10 16 (by decide) rfl kw_1159 ⟨rfl, rfl, rfl⟩ rfl (x := (0 : Int32)) rfl rfl rfl dX10_clears_7 (fun H locs h_3 eh_3 hW hs => ?_)
  have f_2 := (hs.o gy trivial rfl).1.trans f_2
  have hM := hM.tr (hs.mono (by decide))
  have gy := gy.S hs
  have f_4 : h_3.2.1 y 16 = (0 : Int32) := by rw [eh_3]; exact hx_pi_at _ _ _ _
  refine lv_aload_n hx hb dX10_clears_10 rfl (lv_at hl 0 rfl) ?_
  refine lv_iconst (v := 0) hx hb dX10_clears_11 (by decide) ?_
  refine hk_puti hx hb hts hC_10 hown hW gy td_10 18 (by decide) rfl kw_1161 ⟨rfl, rfl, rfl⟩ rfl (x := (0 : Int32)) rfl rfl rfl dX10_clears_12 (fun H locs h_5 eh_5 hW hs => ?_)
  have f_2 := (hs.o gy trivial rfl).1.trans f_2
  have f_4 := (hs.o gy trivial rfl).1.trans f_4
  have hM := hM.tr (hs.mono (by decide))
  have gy := gy.S hs
  have f_6 : h_5.2.1 y 18 = (0 : Int32) := by rw [eh_5]; exact hx_pi_at _ _ _ _
  exact hx_retv hx hb hr hlk hW ⟨hM, f_2⟩ dX10_clears_15


theorem dX10_writes_0 : decode cX10_writes 0 = .ok (.aload_n 0, 1) := by decide +kernel
theorem dX10_writes_1 : decode cX10_writes 1 = .ok (.getfield 29, 3) := by decide +kernel
theorem dX10_writes_4 : decode cX10_writes 4 = .ok (.aload_n 0, 1) := by decide +kernel
theorem dX10_writes_5 : decode cX10_writes 5 = .ok (.getfield 262, 3) := by decide +kernel
theorem dX10_writes_8 : decode cX10_writes 8 = .ok (.iload_n 1, 1) := by decide +kernel
theorem dX10_writes_9 : decode cX10_writes 9 = .ok (.iastore, 1) := by decide +kernel
theorem dX10_writes_10 : decode cX10_writes 10 = .ok (.aload_n 0, 1) := by decide +kernel
theorem dX10_writes_11 : decode cX10_writes 11 = .ok (.dup, 1) := by decide +kernel
theorem dX10_writes_12 : decode cX10_writes 12 = .ok (.getfield 262, 3) := by decide +kernel
theorem dX10_writes_15 : decode cX10_writes 15 = .ok (.iconst 1, 1) := by decide +kernel
theorem dX10_writes_16 : decode cX10_writes 16 = .ok (.iadd, 1) := by decide +kernel
theorem dX10_writes_17 : decode cX10_writes 17 = .ok (.putfield 262, 3) := by decide +kernel
theorem dX10_writes_20 : decode cX10_writes 20 = .ok (.return_, 1) := by decide +kernel
set_option maxHeartbeats 4000000 in
set_option maxRecDepth 100000 in
theorem c_X10_writes_0 (l : Launch) (dC : Nat → ClassId) (dI : Nat → Nat → Nat) (dA : Nat → ClassId) (L : List Nat) (h : hx_h) (sz : Nat) (y : Nat) (i1 : Int32) (gy : hx_g L h y 10) (f_y_14 : h.2.1 y 14 = 0) (q1 : Nat) (gq1 : hx_g L h q1 55) (f_y_15 : h.2.2 y 15 = some q1) : Met l yX10_writes (Cond.code yX10_writes cX10_writes 2 none :: hx_all) ({ frames := 0, cells := 0, slots := 0, locals := 0 }) (va_Pc [.ref y, .int i1] (hx_B P_tb (P_ty dA) (dC, dI) vwCl L h sz)) (va_Qv (fun (u : List Nat × hx_h) => hx_S P_tb [(10, 14), (55, 0)] L h u.1 u.2 ∧ u.2.2.1 y 14 = (1 : Int32)) (hx_E P_tb (P_ty dA) (dC, dI) vwCl (hx_A L sz)) (hx_A L sz)) 0 0 (hx_A L sz) := by
  refine hx_met (lv := [(0, .ref y), (1, .int i1)]) (by decide +kernel) rfl (Nat.le_of_ble_eq_true rfl) rfl ?_
  intro p e s m below meth c hx hb hml hr hlk hts0 hown hin hsz hW ls hl
  have hts : ∀ w ∈ hx_all, w.before _ s = true := fun w hw => hts0 w (List.mem_cons_of_mem _ hw)
  have hown : s.vm.findClass "SmallCourtModel" = some m.cls := hown
  have hM : hx_S P_tb [(10, 14), (55, 0)] L h L h := hx_S.rf
  refine lv_aload_n hx hb dX10_writes_0 rfl (lv_at hl 0 rfl) ?_
  refine hk_getr hx hb hts hC_10 hown hW gy td_10 15 (by decide) rfl kw_1158 ⟨rfl, rfl, rfl⟩ f_y_15 dX10_writes_1 ?_
  refine lv_aload_n hx hb dX10_writes_4 rfl (lv_at hl 0 rfl) ?_
  refine hk_geti hx hb hts hC_10 hown hW gy td_10 14 (by decide) rfl kw_1157 ⟨rfl, rfl, rfl⟩ f_y_14 dX10_writes_5 ?_
  refine lv_iload_n hx hb dX10_writes_8 rfl (lv_at hl 1 rfl) ?_
  refine hk_iast hx hb hW gq1 td_55 rfl (by decide) rfl dX10_writes_9 (fun H locs h_1 eh_1 hW hs => ?_)
  have f_y_14 := (hs.o gy trivial rfl).1.trans f_y_14
  have f_y_15 := (hs.o gy trivial rfl).2.trans f_y_15
  have hM := hM.tr (hs.mono (by decide))
  have gy := gy.S hs
  have gq1 := gq1.S hs
  refine lv_aload_n hx hb dX10_writes_10 rfl (lv_at hl 0 rfl) ?_
  refine lv_dup hx hb dX10_writes_11 rfl ?_
  refine hk_geti hx hb hts hC_10 hown hW gy td_10 14 (by decide) rfl kw_1157 ⟨rfl, rfl, rfl⟩ f_y_14 dX10_writes_12 ?_
  refine lv_iconst (v := 1) hx hb dX10_writes_15 (by decide) ?_
  refine lv_iadd hx hb dX10_writes_16 ?_
  refine lv_topi (fun x_2 ex_2 => ?_)
  obtain rfl : x_2 = (1 : Int32) := ex_2.trans (by decide)
  refine hk_puti hx hb hts hC_10 hown hW gy td_10 14 (by decide) rfl kw_1157 ⟨rfl, rfl, rfl⟩ rfl (x := (1 : Int32)) rfl rfl rfl dX10_writes_17 (fun H locs h_3 eh_3 hW hs => ?_)
  have f_y_15 := (hs.o gy trivial rfl).2.trans f_y_15
  have hM := hM.tr (hs.mono (by decide))
  have gy := gy.S hs
  have gq1 := gq1.S hs
  have f_4 : h_3.2.1 y 14 = (1 : Int32) := by rw [eh_3]; exact hx_pi_at _ _ _ _
  exact hx_retv hx hb hr hlk hW ⟨hM, f_4⟩ dX10_writes_20



set_option maxHeartbeats 4000000 in
set_option maxRecDepth 100000 in
theorem c_X10_writes_1 (l : Launch) (dC : Nat → ClassId) (dI : Nat → Nat → Nat) (dA : Nat → ClassId) (L : List Nat) (h : hx_h) (sz : Nat) (y : Nat) (i1 : Int32) (gy : hx_g L h y 10) (f_y_14 : h.2.1 y 14 = 1) (q1 : Nat) (gq1 : hx_g L h q1 55) (f_y_15 : h.2.2 y 15 = some q1) : Met l yX10_writes (Cond.code yX10_writes cX10_writes 2 none :: hx_all) ({ frames := 0, cells := 0, slots := 0, locals := 0 }) (va_Pc [.ref y, .int i1] (hx_B P_tb (P_ty dA) (dC, dI) vwCl L h sz)) (va_Qv (fun (u : List Nat × hx_h) => hx_S P_tb [(10, 14), (55, 0)] L h u.1 u.2 ∧ u.2.2.1 y 14 = (2 : Int32)) (hx_E P_tb (P_ty dA) (dC, dI) vwCl (hx_A L sz)) (hx_A L sz)) 0 0 (hx_A L sz) := by
  refine hx_met (lv := [(0, .ref y), (1, .int i1)]) (by decide +kernel) rfl (Nat.le_of_ble_eq_true rfl) rfl ?_
  intro p e s m below meth c hx hb hml hr hlk hts0 hown hin hsz hW ls hl
  have hts : ∀ w ∈ hx_all, w.before _ s = true := fun w hw => hts0 w (List.mem_cons_of_mem _ hw)
  have hown : s.vm.findClass "SmallCourtModel" = some m.cls := hown
  have hM : hx_S P_tb [(10, 14), (55, 0)] L h L h := hx_S.rf
  refine lv_aload_n hx hb dX10_writes_0 rfl (lv_at hl 0 rfl) ?_
  refine hk_getr hx hb hts hC_10 hown hW gy td_10 15 (by decide) rfl kw_1158 ⟨rfl, rfl, rfl⟩ f_y_15 dX10_writes_1 ?_
  refine lv_aload_n hx hb dX10_writes_4 rfl (lv_at hl 0 rfl) ?_
  refine hk_geti hx hb hts hC_10 hown hW gy td_10 14 (by decide) rfl kw_1157 ⟨rfl, rfl, rfl⟩ f_y_14 dX10_writes_5 ?_
  refine lv_iload_n hx hb dX10_writes_8 rfl (lv_at hl 1 rfl) ?_
  refine hk_iast hx hb hW gq1 td_55 rfl (by decide) rfl dX10_writes_9 (fun H locs h_1 eh_1 hW hs => ?_)
  have f_y_14 := (hs.o gy trivial rfl).1.trans f_y_14
  have f_y_15 := (hs.o gy trivial rfl).2.trans f_y_15
  have hM := hM.tr (hs.mono (by decide))
  have gy := gy.S hs
  have gq1 := gq1.S hs
  refine lv_aload_n hx hb dX10_writes_10 rfl (lv_at hl 0 rfl) ?_
  refine lv_dup hx hb dX10_writes_11 rfl ?_
  refine hk_geti hx hb hts hC_10 hown hW gy td_10 14 (by decide) rfl kw_1157 ⟨rfl, rfl, rfl⟩ f_y_14 dX10_writes_12 ?_
  refine lv_iconst (v := 1) hx hb dX10_writes_15 (by decide) ?_
  refine lv_iadd hx hb dX10_writes_16 ?_
  refine lv_topi (fun x_2 ex_2 => ?_)
  obtain rfl : x_2 = (2 : Int32) := ex_2.trans (by decide)
  refine hk_puti hx hb hts hC_10 hown hW gy td_10 14 (by decide) rfl kw_1157 ⟨rfl, rfl, rfl⟩ rfl (x := (2 : Int32)) rfl rfl rfl dX10_writes_17 (fun H locs h_3 eh_3 hW hs => ?_)
  have f_y_15 := (hs.o gy trivial rfl).2.trans f_y_15
  have hM := hM.tr (hs.mono (by decide))
  have gy := gy.S hs
  have gq1 := gq1.S hs
  have f_4 : h_3.2.1 y 14 = (2 : Int32) := by rw [eh_3]; exact hx_pi_at _ _ _ _
  exact hx_retv hx hb hr hlk hW ⟨hM, f_4⟩ dX10_writes_20



set_option maxHeartbeats 4000000 in
set_option maxRecDepth 100000 in
theorem c_X10_writes_2 (l : Launch) (dC : Nat → ClassId) (dI : Nat → Nat → Nat) (dA : Nat → ClassId) (L : List Nat) (h : hx_h) (sz : Nat) (y : Nat) (i1 : Int32) (gy : hx_g L h y 10) (f_y_14 : h.2.1 y 14 = 2) (q1 : Nat) (gq1 : hx_g L h q1 55) (f_y_15 : h.2.2 y 15 = some q1) : Met l yX10_writes (Cond.code yX10_writes cX10_writes 2 none :: hx_all) ({ frames := 0, cells := 0, slots := 0, locals := 0 }) (va_Pc [.ref y, .int i1] (hx_B P_tb (P_ty dA) (dC, dI) vwCl L h sz)) (va_Qv (fun (u : List Nat × hx_h) => hx_S P_tb [(10, 14), (55, 0)] L h u.1 u.2 ∧ u.2.2.1 y 14 = (3 : Int32)) (hx_E P_tb (P_ty dA) (dC, dI) vwCl (hx_A L sz)) (hx_A L sz)) 0 0 (hx_A L sz) := by
  refine hx_met (lv := [(0, .ref y), (1, .int i1)]) (by decide +kernel) rfl (Nat.le_of_ble_eq_true rfl) rfl ?_
  intro p e s m below meth c hx hb hml hr hlk hts0 hown hin hsz hW ls hl
  have hts : ∀ w ∈ hx_all, w.before _ s = true := fun w hw => hts0 w (List.mem_cons_of_mem _ hw)
  have hown : s.vm.findClass "SmallCourtModel" = some m.cls := hown
  have hM : hx_S P_tb [(10, 14), (55, 0)] L h L h := hx_S.rf
  refine lv_aload_n hx hb dX10_writes_0 rfl (lv_at hl 0 rfl) ?_
  refine hk_getr hx hb hts hC_10 hown hW gy td_10 15 (by decide) rfl kw_1158 ⟨rfl, rfl, rfl⟩ f_y_15 dX10_writes_1 ?_
  refine lv_aload_n hx hb dX10_writes_4 rfl (lv_at hl 0 rfl) ?_
  refine hk_geti hx hb hts hC_10 hown hW gy td_10 14 (by decide) rfl kw_1157 ⟨rfl, rfl, rfl⟩ f_y_14 dX10_writes_5 ?_
  refine lv_iload_n hx hb dX10_writes_8 rfl (lv_at hl 1 rfl) ?_
  refine hk_iast hx hb hW gq1 td_55 rfl (by decide) rfl dX10_writes_9 (fun H locs h_1 eh_1 hW hs => ?_)
  have f_y_14 := (hs.o gy trivial rfl).1.trans f_y_14
  have f_y_15 := (hs.o gy trivial rfl).2.trans f_y_15
  have hM := hM.tr (hs.mono (by decide))
  have gy := gy.S hs
  have gq1 := gq1.S hs
  refine lv_aload_n hx hb dX10_writes_10 rfl (lv_at hl 0 rfl) ?_
  refine lv_dup hx hb dX10_writes_11 rfl ?_
  refine hk_geti hx hb hts hC_10 hown hW gy td_10 14 (by decide) rfl kw_1157 ⟨rfl, rfl, rfl⟩ f_y_14 dX10_writes_12 ?_
  refine lv_iconst (v := 1) hx hb dX10_writes_15 (by decide) ?_
  refine lv_iadd hx hb dX10_writes_16 ?_
  refine lv_topi (fun x_2 ex_2 => ?_)
  obtain rfl : x_2 = (3 : Int32) := ex_2.trans (by decide)
  refine hk_puti hx hb hts hC_10 hown hW gy td_10 14 (by decide) rfl kw_1157 ⟨rfl, rfl, rfl⟩ rfl (x := (3 : Int32)) rfl rfl rfl dX10_writes_17 (fun H locs h_3 eh_3 hW hs => ?_)
  have f_y_15 := (hs.o gy trivial rfl).2.trans f_y_15
  have hM := hM.tr (hs.mono (by decide))
  have gy := gy.S hs
  have gq1 := gq1.S hs
  have f_4 : h_3.2.1 y 14 = (3 : Int32) := by rw [eh_3]; exact hx_pi_at _ _ _ _
  exact hx_retv hx hb hr hlk hW ⟨hM, f_4⟩ dX10_writes_20


theorem dX10_withoutProof_0 : decode cX10_withoutProof 0 = .ok (.aload_n 0, 1) := by decide +kernel
theorem dX10_withoutProof_1 : decode cX10_withoutProof 1 = .ok (.iconst 0, 1) := by decide +kernel
theorem dX10_withoutProof_2 : decode cX10_withoutProof 2 = .ok (.iconst 2, 1) := by decide +kernel
theorem dX10_withoutProof_3 : decode cX10_withoutProof 3 = .ok (.iconst 1, 1) := by decide +kernel
theorem dX10_withoutProof_4 : decode cX10_withoutProof 4 = .ok (.invokestatic 280, 3) := by decide +kernel
theorem dX10_withoutProof_7 : decode cX10_withoutProof 7 = .ok (.invokevirtual 284, 3) := by decide +kernel
theorem dX10_withoutProof_10 : decode cX10_withoutProof 10 = .ok (.aload_n 0, 1) := by decide +kernel
theorem dX10_withoutProof_11 : decode cX10_withoutProof 11 = .ok (.iconst 1, 1) := by decide +kernel
theorem dX10_withoutProof_12 : decode cX10_withoutProof 12 = .ok (.iconst 2, 1) := by decide +kernel
theorem dX10_withoutProof_13 : decode cX10_withoutProof 13 = .ok (.iconst 0, 1) := by decide +kernel
theorem dX10_withoutProof_14 : decode cX10_withoutProof 14 = .ok (.invokestatic 280, 3) := by decide +kernel
theorem dX10_withoutProof_17 : decode cX10_withoutProof 17 = .ok (.invokevirtual 284, 3) := by decide +kernel
theorem dX10_withoutProof_20 : decode cX10_withoutProof 20 = .ok (.aload_n 0, 1) := by decide +kernel
theorem dX10_withoutProof_21 : decode cX10_withoutProof 21 = .ok (.iconst 1, 1) := by decide +kernel
theorem dX10_withoutProof_22 : decode cX10_withoutProof 22 = .ok (.invokevirtual 284, 3) := by decide +kernel
theorem dX10_withoutProof_25 : decode cX10_withoutProof 25 = .ok (.return_, 1) := by decide +kernel
set_option maxHeartbeats 4000000 in
set_option maxRecDepth 100000 in
theorem c_X10_withoutProof (l : Launch) (dC : Nat → ClassId) (dI : Nat → Nat → Nat) (dA : Nat → ClassId) (L : List Nat) (h : hx_h) (sz : Nat) (y : Nat) (gy : hx_g L h y 10) (f_y_14 : h.2.1 y 14 = 0) (q1 : Nat) (gq1 : hx_g L h q1 55) (f_y_15 : h.2.2 y 15 = some q1) : Met l yX10_withoutProof (Cond.code yX10_withoutProof cX10_withoutProof 1 none :: hx_all) ({ frames := 1, cells := 0, slots := 0, locals := 22 }) (va_Pc [.ref y] (hx_B P_tb (P_ty dA) (dC, dI) vwCl L h sz)) (va_Qv (fun (u : List Nat × hx_h) => hx_S P_tb [(10, 14), (55, 0)] L h u.1 u.2 ∧ u.2.2.1 y 14 = (3 : Int32)) (hx_E P_tb (P_ty dA) (dC, dI) vwCl (hx_A L sz)) (hx_A L sz)) 0 0 (hx_A L sz) := by
  refine hx_met (lv := [(0, .ref y)]) (by decide +kernel) rfl (Nat.le_of_ble_eq_true rfl) rfl ?_
  intro p e s m below meth c hx hb hml hr hlk hts0 hown hin hsz hW ls hl
  have hts : ∀ w ∈ hx_all, w.before _ s = true := fun w hw => hts0 w (List.mem_cons_of_mem _ hw)
  have hown : s.vm.findClass "SmallCourtModel" = some m.cls := hown
  have hM : hx_S P_tb [(10, 14), (55, 0)] L h L h := hx_S.rf
  refine lv_aload_n hx hb dX10_withoutProof_0 rfl (lv_at hl 0 rfl) ?_
  refine lv_iconst (v := 0) hx hb dX10_withoutProof_1 (by decide) ?_
  refine lv_iconst (v := 2) hx hb dX10_withoutProof_2 (by decide) ?_
  refine lv_iconst (v := 1) hx hb dX10_withoutProof_3 (by decide) ?_
  refine hx_goi (hx_runS (As := [.int (0 : Int32), .int (2 : Int32), .int (1 : Int32)]) (rest := [.ref y]) ⟨hx, hb, hml, hown, hts⟩ hW (c_X10_compareOf_1200001 l dC dI dA L h s.heap.size ) (va_cwS 3 hts (hx_gS kw_1132 kw_1130 kw_1131 kw_103) rfl rfl rfl (by decide +kernel) ⟨Nat.le_of_ble_eq_true rfl, Nat.le_of_ble_eq_true rfl⟩) rfl hl.1 rfl (Nat.le_of_ble_eq_true rfl) dX10_withoutProof_4 ⟨Nat.le_of_ble_eq_true rfl, Nat.le_of_ble_eq_true rfl⟩) hW (fun r_3 L_1 h_2 H locs p_4 hW => ?_)
  obtain ⟨rfl, eu⟩ := p_4
  cases eu
  refine hx_gov (hx_runV (As := [.int (1200001 : Int32)]) (rest := []) ⟨hx, hb, hml, hown, hts⟩ hW gy td_10 (T := TX10) (N := 98) rfl (c_X10_writes_0 l dC dI dA L h H.size y (1200001 : Int32) gy f_y_14 q1 gq1 f_y_15) (cwV 1 hts (hx_gV kw_1138 kw_1135 kw_1137 kw_50 kw_103) rfl rfl rfl (by decide +kernel) ⟨Nat.le_of_ble_eq_true rfl, Nat.le_of_ble_eq_true rfl⟩) rfl hl.1 rfl (Nat.le_of_ble_eq_true rfl) dX10_withoutProof_7 ⟨Nat.le_of_ble_eq_true rfl, Nat.le_of_ble_eq_true rfl⟩) hW (fun L_5 h_6 H locs p_8 hW => ?_)
  obtain ⟨hs, f_9⟩ := p_8
  have hs : hx_S P_tb [(10, 14), (55, 0)] L h L_5 h_6 := hs
  have f_9 : h_6.2.1 y 14 = _ := f_9
  have f_y_15 := (hs.o gy trivial rfl).2.trans f_y_15
  have hM := hM.tr (hs.mono (by decide))
  have gy := gy.S hs
  have gq1 := gq1.S hs
  refine lv_aload_n hx hb dX10_withoutProof_10 rfl (lv_at hl 0 rfl) ?_
  refine lv_iconst (v := 1) hx hb dX10_withoutProof_11 (by decide) ?_
  refine lv_iconst (v := 2) hx hb dX10_withoutProof_12 (by decide) ?_
  refine lv_iconst (v := 0) hx hb dX10_withoutProof_13 (by decide) ?_
  refine hx_goi (hx_runS (As := [.int (1 : Int32), .int (2 : Int32), .int (0 : Int32)]) (rest := [.ref y]) ⟨hx, hb, hml, hown, hts⟩ hW (c_X10_compareOf_2200000 l dC dI dA L_5 h_6 H.size ) (va_cwS 3 hts (hx_gS kw_1132 kw_1130 kw_1131 kw_103) rfl rfl rfl (by decide +kernel) ⟨Nat.le_of_ble_eq_true rfl, Nat.le_of_ble_eq_true rfl⟩) rfl hl.1 rfl (Nat.le_of_ble_eq_true rfl) dX10_withoutProof_14 ⟨Nat.le_of_ble_eq_true rfl, Nat.le_of_ble_eq_true rfl⟩) hW (fun r_12 L_10 h_11 H locs p_13 hW => ?_)
  obtain ⟨rfl, eu⟩ := p_13
  cases eu
  refine hx_gov (hx_runV (As := [.int (2200000 : Int32)]) (rest := []) ⟨hx, hb, hml, hown, hts⟩ hW gy td_10 (T := TX10) (N := 98) rfl (c_X10_writes_1 l dC dI dA L_5 h_6 H.size y (2200000 : Int32) gy f_9 q1 gq1 f_y_15) (cwV 1 hts (hx_gV kw_1138 kw_1135 kw_1137 kw_50 kw_103) rfl rfl rfl (by decide +kernel) ⟨Nat.le_of_ble_eq_true rfl, Nat.le_of_ble_eq_true rfl⟩) rfl hl.1 rfl (Nat.le_of_ble_eq_true rfl) dX10_withoutProof_17 ⟨Nat.le_of_ble_eq_true rfl, Nat.le_of_ble_eq_true rfl⟩) hW (fun L_14 h_15 H locs p_17 hW => ?_)
  obtain ⟨hs, f_18⟩ := p_17
  have hs : hx_S P_tb [(10, 14), (55, 0)] L_5 h_6 L_14 h_15 := hs
  have f_18 : h_15.2.1 y 14 = _ := f_18
  have f_y_15 := (hs.o gy trivial rfl).2.trans f_y_15
  have hM := hM.tr (hs.mono (by decide))
  have gy := gy.S hs
  have gq1 := gq1.S hs
  refine lv_aload_n hx hb dX10_withoutProof_20 rfl (lv_at hl 0 rfl) ?_
  refine lv_iconst (v := 1) hx hb dX10_withoutProof_21 (by decide) ?_
  refine hx_gov (hx_runV (As := [.int (1 : Int32)]) (rest := []) ⟨hx, hb, hml, hown, hts⟩ hW gy td_10 (T := TX10) (N := 98) rfl (c_X10_writes_2 l dC dI dA L_14 h_15 H.size y (1 : Int32) gy f_18 q1 gq1 f_y_15) (cwV 1 hts (hx_gV kw_1138 kw_1135 kw_1137 kw_50 kw_103) rfl rfl rfl (by decide +kernel) ⟨Nat.le_of_ble_eq_true rfl, Nat.le_of_ble_eq_true rfl⟩) rfl hl.1 rfl (Nat.le_of_ble_eq_true rfl) dX10_withoutProof_22 ⟨Nat.le_of_ble_eq_true rfl, Nat.le_of_ble_eq_true rfl⟩) hW (fun L_19 h_20 H locs p_22 hW => ?_)
  obtain ⟨hs, f_23⟩ := p_22
  have hs : hx_S P_tb [(10, 14), (55, 0)] L_14 h_15 L_19 h_20 := hs
  have f_23 : h_20.2.1 y 14 = _ := f_23
  have f_y_15 := (hs.o gy trivial rfl).2.trans f_y_15
  have hM := hM.tr (hs.mono (by decide))
  have gy := gy.S hs
  have gq1 := gq1.S hs
  exact hx_retv hx hb hr hlk hW ⟨hM, f_23⟩ dX10_withoutProof_25


theorem dX10_keepsProof_0 : decode cX10_keepsProof 0 = .ok (.aload_n 0, 1) := by decide +kernel
theorem dX10_keepsProof_1 : decode cX10_keepsProof 1 = .ok (.getfield 16, 3) := by decide +kernel
theorem dX10_keepsProof_4 : decode cX10_keepsProof 4 = .ok (.iload_n 1, 1) := by decide +kernel
theorem dX10_keepsProof_5 : decode cX10_keepsProof 5 = .ok (.aload_n 0, 1) := by decide +kernel
theorem dX10_keepsProof_6 : decode cX10_keepsProof 6 = .ok (.getfield 262, 3) := by decide +kernel
theorem dX10_keepsProof_9 : decode cX10_keepsProof 9 = .ok (.iastore, 1) := by decide +kernel
theorem dX10_keepsProof_10 : decode cX10_keepsProof 10 = .ok (.iconst 0, 1) := by decide +kernel
theorem dX10_keepsProof_11 : decode cX10_keepsProof 11 = .ok (.istore_n 2, 1) := by decide +kernel
theorem dX10_keepsProof_12 : decode cX10_keepsProof 12 = .ok (.iload_n 2, 1) := by decide +kernel
theorem dX10_keepsProof_13 : decode cX10_keepsProof 13 = .ok (.aload_n 0, 1) := by decide +kernel
theorem dX10_keepsProof_14 : decode cX10_keepsProof 14 = .ok (.getfield 262, 3) := by decide +kernel
theorem dX10_keepsProof_17 : decode cX10_keepsProof 17 = .ok (.if_icmp .ge 27, 3) := by decide +kernel
theorem dX10_keepsProof_20 : decode cX10_keepsProof 20 = .ok (.aload_n 0, 1) := by decide +kernel
theorem dX10_keepsProof_21 : decode cX10_keepsProof 21 = .ok (.getfield 19, 3) := by decide +kernel
theorem dX10_keepsProof_24 : decode cX10_keepsProof 24 = .ok (.sipush 128, 3) := by decide +kernel
theorem dX10_keepsProof_27 : decode cX10_keepsProof 27 = .ok (.iload_n 1, 1) := by decide +kernel
theorem dX10_keepsProof_28 : decode cX10_keepsProof 28 = .ok (.imul, 1) := by decide +kernel
theorem dX10_keepsProof_29 : decode cX10_keepsProof 29 = .ok (.iload_n 2, 1) := by decide +kernel
theorem dX10_keepsProof_30 : decode cX10_keepsProof 30 = .ok (.iadd, 1) := by decide +kernel
theorem dX10_keepsProof_31 : decode cX10_keepsProof 31 = .ok (.aload_n 0, 1) := by decide +kernel
theorem dX10_keepsProof_32 : decode cX10_keepsProof 32 = .ok (.getfield 29, 3) := by decide +kernel
theorem dX10_keepsProof_35 : decode cX10_keepsProof 35 = .ok (.iload_n 2, 1) := by decide +kernel
theorem dX10_keepsProof_36 : decode cX10_keepsProof 36 = .ok (.iaload, 1) := by decide +kernel
theorem dX10_keepsProof_37 : decode cX10_keepsProof 37 = .ok (.iastore, 1) := by decide +kernel
theorem dX10_keepsProof_38 : decode cX10_keepsProof 38 = .ok (.iinc 2 1, 3) := by decide +kernel
theorem dX10_keepsProof_41 : decode cX10_keepsProof 41 = .ok (.goto (-29), 3) := by decide +kernel
theorem dX10_keepsProof_44 : decode cX10_keepsProof 44 = .ok (.return_, 1) := by decide +kernel
set_option maxHeartbeats 4000000 in
set_option maxRecDepth 100000 in
theorem c_X10_keepsProof_0 (l : Launch) (dC : Nat → ClassId) (dI : Nat → Nat → Nat) (dA : Nat → ClassId) (L : List Nat) (h : hx_h) (sz : Nat) (y : Nat) (gy : hx_g L h y 10) (f_y_14 : h.2.1 y 14 = 3) (q1 : Nat) (gq1 : hx_g L h q1 55) (f_y_15 : h.2.2 y 15 = some q1) (q2 : Nat) (gq2 : hx_g L h q2 51) (f_y_4 : h.2.2 y 4 = some q2) (q3 : Nat) (gq3 : hx_g L h q3 52) (f_y_5 : h.2.2 y 5 = some q3) : Met l yX10_keepsProof (Cond.code yX10_keepsProof cX10_keepsProof 3 none :: hx_all) ({ frames := 0, cells := 0, slots := 0, locals := 0 }) (va_Pc [.ref y, .int (0 : Int32)] (hx_B P_tb (P_ty dA) (dC, dI) vwCl L h sz)) (va_Qv (fun (u : List Nat × hx_h) => hx_S P_tb [(51, 0), (52, 0)] L h u.1 u.2) (hx_E P_tb (P_ty dA) (dC, dI) vwCl (hx_A L sz)) (hx_A L sz)) 0 0 (hx_A L sz) := by
  refine hx_met (lv := [(0, .ref y), (1, .int (0 : Int32))]) (by decide +kernel) rfl (Nat.le_of_ble_eq_true rfl) rfl ?_
  intro p e s m below meth c hx hb hml hr hlk hts0 hown hin hsz hW ls hl
  have hts : ∀ w ∈ hx_all, w.before _ s = true := fun w hw => hts0 w (List.mem_cons_of_mem _ hw)
  have hown : s.vm.findClass "SmallCourtModel" = some m.cls := hown
  have hM : hx_S P_tb [(51, 0), (52, 0)] L h L h := hx_S.rf
  refine lv_aload_n hx hb dX10_keepsProof_0 rfl (lv_at hl 0 rfl) ?_
  refine hk_getr hx hb hts hC_10 hown hW gy td_10 4 (by decide) rfl kw_1147 ⟨rfl, rfl, rfl⟩ f_y_4 dX10_keepsProof_1 ?_
  refine lv_iload_n hx hb dX10_keepsProof_4 rfl (lv_at hl 1 rfl) ?_
  refine lv_aload_n hx hb dX10_keepsProof_5 rfl (lv_at hl 0 rfl) ?_
  refine hk_geti hx hb hts hC_10 hown hW gy td_10 14 (by decide) rfl kw_1157 ⟨rfl, rfl, rfl⟩ f_y_14 dX10_keepsProof_6 ?_
  refine hk_iast hx hb hW gq2 td_51 rfl (by decide) rfl dX10_keepsProof_9 (fun H locs h_1 eh_1 hW hs => ?_)
  have f_y_14 := (hs.o gy trivial rfl).1.trans f_y_14
  have f_y_15 := (hs.o gy trivial rfl).2.trans f_y_15
  have f_y_4 := (hs.o gy trivial rfl).2.trans f_y_4
  have f_y_5 := (hs.o gy trivial rfl).2.trans f_y_5
  have hM := hM.tr (hs.mono (by decide))
  have gy := gy.S hs
  have gq1 := gq1.S hs
  have gq2 := gq2.S hs
  have gq3 := gq3.S hs
  refine lv_iconst (v := 0) hx hb dX10_keepsProof_10 (by decide) ?_
  refine lv_istore_n (lv' := [(2, .int (0 : Int32)), (0, .ref y), (1, .int (0 : Int32))]) hx hb dX10_keepsProof_11 rfl hl (by decide) rfl (fun ls hl => ?_)
  refine lv_iload_n hx hb dX10_keepsProof_12 rfl (lv_at hl 0 rfl) ?_
  refine lv_aload_n hx hb dX10_keepsProof_13 rfl (lv_at hl 1 rfl) ?_
  refine hk_geti hx hb hts hC_10 hown hW gy td_10 14 (by decide) rfl kw_1157 ⟨rfl, rfl, rfl⟩ f_y_14 dX10_keepsProof_14 ?_
  refine hb_icmp_ge (zx := 0) (zy := 3) (tgt := 44) hx hb (by decide) (by decide) dX10_keepsProof_17 (by decide) (fun c_2 => absurd c_2 (by decide)) (fun c_2 => ?_)
  refine lv_aload_n hx hb dX10_keepsProof_20 rfl (lv_at hl 1 rfl) ?_
  refine hk_getr hx hb hts hC_10 hown hW gy td_10 5 (by decide) rfl kw_1148 ⟨rfl, rfl, rfl⟩ f_y_5 dX10_keepsProof_21 ?_
  refine lv_sipush (v := 128) hx hb dX10_keepsProof_24 (by decide) ?_
  refine lv_iload_n hx hb dX10_keepsProof_27 rfl (lv_at hl 2 rfl) ?_
  refine lv_imul hx hb dX10_keepsProof_28 ?_
  refine lv_topi (fun x_3 ex_3 => ?_)
  obtain rfl : x_3 = (0 : Int32) := ex_3.trans (by decide)
  refine lv_iload_n hx hb dX10_keepsProof_29 rfl (lv_at hl 0 rfl) ?_
  refine lv_iadd hx hb dX10_keepsProof_30 ?_
  refine lv_topi (fun x_4 ex_4 => ?_)
  obtain rfl : x_4 = (0 : Int32) := ex_4.trans (by decide)
  refine lv_aload_n hx hb dX10_keepsProof_31 rfl (lv_at hl 1 rfl) ?_
  refine hk_getr hx hb hts hC_10 hown hW gy td_10 15 (by decide) rfl kw_1158 ⟨rfl, rfl, rfl⟩ f_y_15 dX10_keepsProof_32 ?_
  refine lv_iload_n hx hb dX10_keepsProof_35 rfl (lv_at hl 0 rfl) ?_
  refine hk_iald hx hb hW gq1 td_55 rfl (by decide) rfl dX10_keepsProof_36 ?_
  refine hk_iast hx hb hW gq3 td_52 rfl (by decide) rfl dX10_keepsProof_37 (fun H locs h_5 eh_5 hW hs => ?_)
  have f_y_14 := (hs.o gy trivial rfl).1.trans f_y_14
  have f_y_15 := (hs.o gy trivial rfl).2.trans f_y_15
  have f_y_4 := (hs.o gy trivial rfl).2.trans f_y_4
  have f_y_5 := (hs.o gy trivial rfl).2.trans f_y_5
  have hM := hM.tr (hs.mono (by decide))
  have gy := gy.S hs
  have gq1 := gq1.S hs
  have gq2 := gq2.S hs
  have gq3 := gq3.S hs
  refine lv_iinc (v := 1) (lv' := [(2, .int (1 : Int32)), (0, .ref y), (1, .int (0 : Int32))]) hx hb dX10_keepsProof_38 hl (k := 0) rfl (by decide) (by decide) rfl (fun ls hl => ?_)
  refine lv_goto (tgt := 12) hx hb dX10_keepsProof_41 (by decide) ?_
  refine lv_iload_n hx hb dX10_keepsProof_12 rfl (lv_at hl 0 rfl) ?_
  refine lv_aload_n hx hb dX10_keepsProof_13 rfl (lv_at hl 1 rfl) ?_
  refine hk_geti hx hb hts hC_10 hown hW gy td_10 14 (by decide) rfl kw_1157 ⟨rfl, rfl, rfl⟩ f_y_14 dX10_keepsProof_14 ?_
  refine hb_icmp_ge (zx := 1) (zy := 3) (tgt := 44) hx hb (by decide) (by decide) dX10_keepsProof_17 (by decide) (fun c_6 => absurd c_6 (by decide)) (fun c_6 => ?_)
  refine lv_aload_n hx hb dX10_keepsProof_20 rfl (lv_at hl 1 rfl) ?_
  refine hk_getr hx hb hts hC_10 hown hW gy td_10 5 (by decide) rfl kw_1148 ⟨rfl, rfl, rfl⟩ f_y_5 dX10_keepsProof_21 ?_
  refine lv_sipush (v := 128) hx hb dX10_keepsProof_24 (by decide) ?_
  refine lv_iload_n hx hb dX10_keepsProof_27 rfl (lv_at hl 2 rfl) ?_
  refine lv_imul hx hb dX10_keepsProof_28 ?_
  refine lv_topi (fun x_7 ex_7 => ?_)
  obtain rfl : x_7 = (0 : Int32) := ex_7.trans (by decide)
  refine lv_iload_n hx hb dX10_keepsProof_29 rfl (lv_at hl 0 rfl) ?_
  refine lv_iadd hx hb dX10_keepsProof_30 ?_
  refine lv_topi (fun x_8 ex_8 => ?_)
  obtain rfl : x_8 = (1 : Int32) := ex_8.trans (by decide)
  refine lv_aload_n hx hb dX10_keepsProof_31 rfl (lv_at hl 1 rfl) ?_
  refine hk_getr hx hb hts hC_10 hown hW gy td_10 15 (by decide) rfl kw_1158 ⟨rfl, rfl, rfl⟩ f_y_15 dX10_keepsProof_32 ?_
  refine lv_iload_n hx hb dX10_keepsProof_35 rfl (lv_at hl 0 rfl) ?_
  refine hk_iald hx hb hW gq1 td_55 rfl (by decide) rfl dX10_keepsProof_36 ?_
  refine hk_iast hx hb hW gq3 td_52 rfl (by decide) rfl dX10_keepsProof_37 (fun H locs h_9 eh_9 hW hs => ?_)
  have f_y_14 := (hs.o gy trivial rfl).1.trans f_y_14
  have f_y_15 := (hs.o gy trivial rfl).2.trans f_y_15
  have f_y_4 := (hs.o gy trivial rfl).2.trans f_y_4
  have f_y_5 := (hs.o gy trivial rfl).2.trans f_y_5
  have hM := hM.tr (hs.mono (by decide))
  have gy := gy.S hs
  have gq1 := gq1.S hs
  have gq2 := gq2.S hs
  have gq3 := gq3.S hs
  refine lv_iinc (v := 2) (lv' := [(2, .int (2 : Int32)), (0, .ref y), (1, .int (0 : Int32))]) hx hb dX10_keepsProof_38 hl (k := 0) rfl (by decide) (by decide) rfl (fun ls hl => ?_)
  refine lv_goto (tgt := 12) hx hb dX10_keepsProof_41 (by decide) ?_
  refine lv_iload_n hx hb dX10_keepsProof_12 rfl (lv_at hl 0 rfl) ?_
  refine lv_aload_n hx hb dX10_keepsProof_13 rfl (lv_at hl 1 rfl) ?_
  refine hk_geti hx hb hts hC_10 hown hW gy td_10 14 (by decide) rfl kw_1157 ⟨rfl, rfl, rfl⟩ f_y_14 dX10_keepsProof_14 ?_
  refine hb_icmp_ge (zx := 2) (zy := 3) (tgt := 44) hx hb (by decide) (by decide) dX10_keepsProof_17 (by decide) (fun c_10 => absurd c_10 (by decide)) (fun c_10 => ?_)
  refine lv_aload_n hx hb dX10_keepsProof_20 rfl (lv_at hl 1 rfl) ?_
  refine hk_getr hx hb hts hC_10 hown hW gy td_10 5 (by decide) rfl kw_1148 ⟨rfl, rfl, rfl⟩ f_y_5 dX10_keepsProof_21 ?_
  refine lv_sipush (v := 128) hx hb dX10_keepsProof_24 (by decide) ?_
  refine lv_iload_n hx hb dX10_keepsProof_27 rfl (lv_at hl 2 rfl) ?_
  refine lv_imul hx hb dX10_keepsProof_28 ?_
  refine lv_topi (fun x_11 ex_11 => ?_)
  obtain rfl : x_11 = (0 : Int32) := ex_11.trans (by decide)
  refine lv_iload_n hx hb dX10_keepsProof_29 rfl (lv_at hl 0 rfl) ?_
  refine lv_iadd hx hb dX10_keepsProof_30 ?_
  refine lv_topi (fun x_12 ex_12 => ?_)
  obtain rfl : x_12 = (2 : Int32) := ex_12.trans (by decide)
  refine lv_aload_n hx hb dX10_keepsProof_31 rfl (lv_at hl 1 rfl) ?_
  refine hk_getr hx hb hts hC_10 hown hW gy td_10 15 (by decide) rfl kw_1158 ⟨rfl, rfl, rfl⟩ f_y_15 dX10_keepsProof_32 ?_
  refine lv_iload_n hx hb dX10_keepsProof_35 rfl (lv_at hl 0 rfl) ?_
  refine hk_iald hx hb hW gq1 td_55 rfl (by decide) rfl dX10_keepsProof_36 ?_
  refine hk_iast hx hb hW gq3 td_52 rfl (by decide) rfl dX10_keepsProof_37 (fun H locs h_13 eh_13 hW hs => ?_)
  have f_y_14 := (hs.o gy trivial rfl).1.trans f_y_14
  have f_y_15 := (hs.o gy trivial rfl).2.trans f_y_15
  have f_y_4 := (hs.o gy trivial rfl).2.trans f_y_4
  have f_y_5 := (hs.o gy trivial rfl).2.trans f_y_5
  have hM := hM.tr (hs.mono (by decide))
  have gy := gy.S hs
  have gq1 := gq1.S hs
  have gq2 := gq2.S hs
  have gq3 := gq3.S hs
  refine lv_iinc (v := 3) (lv' := [(2, .int (3 : Int32)), (0, .ref y), (1, .int (0 : Int32))]) hx hb dX10_keepsProof_38 hl (k := 0) rfl (by decide) (by decide) rfl (fun ls hl => ?_)
  refine lv_goto (tgt := 12) hx hb dX10_keepsProof_41 (by decide) ?_
  refine lv_iload_n hx hb dX10_keepsProof_12 rfl (lv_at hl 0 rfl) ?_
  refine lv_aload_n hx hb dX10_keepsProof_13 rfl (lv_at hl 1 rfl) ?_
  refine hk_geti hx hb hts hC_10 hown hW gy td_10 14 (by decide) rfl kw_1157 ⟨rfl, rfl, rfl⟩ f_y_14 dX10_keepsProof_14 ?_
  refine hb_icmp_ge (zx := 3) (zy := 3) (tgt := 44) hx hb (by decide) (by decide) dX10_keepsProof_17 (by decide) (fun c_14 => ?_) (fun c_14 => absurd c_14 (by decide))
  exact hx_retv hx hb hr hlk hW hM dX10_keepsProof_44



set_option maxHeartbeats 4000000 in
set_option maxRecDepth 100000 in
theorem c_X10_keepsProof_1 (l : Launch) (dC : Nat → ClassId) (dI : Nat → Nat → Nat) (dA : Nat → ClassId) (L : List Nat) (h : hx_h) (sz : Nat) (y : Nat) (gy : hx_g L h y 10) (f_y_14 : h.2.1 y 14 = 3) (q1 : Nat) (gq1 : hx_g L h q1 55) (f_y_15 : h.2.2 y 15 = some q1) (q2 : Nat) (gq2 : hx_g L h q2 51) (f_y_4 : h.2.2 y 4 = some q2) (q3 : Nat) (gq3 : hx_g L h q3 52) (f_y_5 : h.2.2 y 5 = some q3) : Met l yX10_keepsProof (Cond.code yX10_keepsProof cX10_keepsProof 3 none :: hx_all) ({ frames := 0, cells := 0, slots := 0, locals := 0 }) (va_Pc [.ref y, .int (1 : Int32)] (hx_B P_tb (P_ty dA) (dC, dI) vwCl L h sz)) (va_Qv (fun (u : List Nat × hx_h) => hx_S P_tb [(51, 0), (52, 0)] L h u.1 u.2) (hx_E P_tb (P_ty dA) (dC, dI) vwCl (hx_A L sz)) (hx_A L sz)) 0 0 (hx_A L sz) := by
  refine hx_met (lv := [(0, .ref y), (1, .int (1 : Int32))]) (by decide +kernel) rfl (Nat.le_of_ble_eq_true rfl) rfl ?_
  intro p e s m below meth c hx hb hml hr hlk hts0 hown hin hsz hW ls hl
  have hts : ∀ w ∈ hx_all, w.before _ s = true := fun w hw => hts0 w (List.mem_cons_of_mem _ hw)
  have hown : s.vm.findClass "SmallCourtModel" = some m.cls := hown
  have hM : hx_S P_tb [(51, 0), (52, 0)] L h L h := hx_S.rf
  refine lv_aload_n hx hb dX10_keepsProof_0 rfl (lv_at hl 0 rfl) ?_
  refine hk_getr hx hb hts hC_10 hown hW gy td_10 4 (by decide) rfl kw_1147 ⟨rfl, rfl, rfl⟩ f_y_4 dX10_keepsProof_1 ?_
  refine lv_iload_n hx hb dX10_keepsProof_4 rfl (lv_at hl 1 rfl) ?_
  refine lv_aload_n hx hb dX10_keepsProof_5 rfl (lv_at hl 0 rfl) ?_
  refine hk_geti hx hb hts hC_10 hown hW gy td_10 14 (by decide) rfl kw_1157 ⟨rfl, rfl, rfl⟩ f_y_14 dX10_keepsProof_6 ?_
  refine hk_iast hx hb hW gq2 td_51 rfl (by decide) rfl dX10_keepsProof_9 (fun H locs h_1 eh_1 hW hs => ?_)
  have f_y_14 := (hs.o gy trivial rfl).1.trans f_y_14
  have f_y_15 := (hs.o gy trivial rfl).2.trans f_y_15
  have f_y_4 := (hs.o gy trivial rfl).2.trans f_y_4
  have f_y_5 := (hs.o gy trivial rfl).2.trans f_y_5
  have hM := hM.tr (hs.mono (by decide))
  have gy := gy.S hs
  have gq1 := gq1.S hs
  have gq2 := gq2.S hs
  have gq3 := gq3.S hs
  refine lv_iconst (v := 0) hx hb dX10_keepsProof_10 (by decide) ?_
  refine lv_istore_n (lv' := [(2, .int (0 : Int32)), (0, .ref y), (1, .int (1 : Int32))]) hx hb dX10_keepsProof_11 rfl hl (by decide) rfl (fun ls hl => ?_)
  refine lv_iload_n hx hb dX10_keepsProof_12 rfl (lv_at hl 0 rfl) ?_
  refine lv_aload_n hx hb dX10_keepsProof_13 rfl (lv_at hl 1 rfl) ?_
  refine hk_geti hx hb hts hC_10 hown hW gy td_10 14 (by decide) rfl kw_1157 ⟨rfl, rfl, rfl⟩ f_y_14 dX10_keepsProof_14 ?_
  refine hb_icmp_ge (zx := 0) (zy := 3) (tgt := 44) hx hb (by decide) (by decide) dX10_keepsProof_17 (by decide) (fun c_2 => absurd c_2 (by decide)) (fun c_2 => ?_)
  refine lv_aload_n hx hb dX10_keepsProof_20 rfl (lv_at hl 1 rfl) ?_
  refine hk_getr hx hb hts hC_10 hown hW gy td_10 5 (by decide) rfl kw_1148 ⟨rfl, rfl, rfl⟩ f_y_5 dX10_keepsProof_21 ?_
  refine lv_sipush (v := 128) hx hb dX10_keepsProof_24 (by decide) ?_
  refine lv_iload_n hx hb dX10_keepsProof_27 rfl (lv_at hl 2 rfl) ?_
  refine lv_imul hx hb dX10_keepsProof_28 ?_
  refine lv_topi (fun x_3 ex_3 => ?_)
  obtain rfl : x_3 = (128 : Int32) := ex_3.trans (by decide)
  refine lv_iload_n hx hb dX10_keepsProof_29 rfl (lv_at hl 0 rfl) ?_
  refine lv_iadd hx hb dX10_keepsProof_30 ?_
  refine lv_topi (fun x_4 ex_4 => ?_)
  obtain rfl : x_4 = (128 : Int32) := ex_4.trans (by decide)
  refine lv_aload_n hx hb dX10_keepsProof_31 rfl (lv_at hl 1 rfl) ?_
  refine hk_getr hx hb hts hC_10 hown hW gy td_10 15 (by decide) rfl kw_1158 ⟨rfl, rfl, rfl⟩ f_y_15 dX10_keepsProof_32 ?_
  refine lv_iload_n hx hb dX10_keepsProof_35 rfl (lv_at hl 0 rfl) ?_
  refine hk_iald hx hb hW gq1 td_55 rfl (by decide) rfl dX10_keepsProof_36 ?_
  refine hk_iast hx hb hW gq3 td_52 rfl (by decide) rfl dX10_keepsProof_37 (fun H locs h_5 eh_5 hW hs => ?_)
  have f_y_14 := (hs.o gy trivial rfl).1.trans f_y_14
  have f_y_15 := (hs.o gy trivial rfl).2.trans f_y_15
  have f_y_4 := (hs.o gy trivial rfl).2.trans f_y_4
  have f_y_5 := (hs.o gy trivial rfl).2.trans f_y_5
  have hM := hM.tr (hs.mono (by decide))
  have gy := gy.S hs
  have gq1 := gq1.S hs
  have gq2 := gq2.S hs
  have gq3 := gq3.S hs
  refine lv_iinc (v := 1) (lv' := [(2, .int (1 : Int32)), (0, .ref y), (1, .int (1 : Int32))]) hx hb dX10_keepsProof_38 hl (k := 0) rfl (by decide) (by decide) rfl (fun ls hl => ?_)
  refine lv_goto (tgt := 12) hx hb dX10_keepsProof_41 (by decide) ?_
  refine lv_iload_n hx hb dX10_keepsProof_12 rfl (lv_at hl 0 rfl) ?_
  refine lv_aload_n hx hb dX10_keepsProof_13 rfl (lv_at hl 1 rfl) ?_
  refine hk_geti hx hb hts hC_10 hown hW gy td_10 14 (by decide) rfl kw_1157 ⟨rfl, rfl, rfl⟩ f_y_14 dX10_keepsProof_14 ?_
  refine hb_icmp_ge (zx := 1) (zy := 3) (tgt := 44) hx hb (by decide) (by decide) dX10_keepsProof_17 (by decide) (fun c_6 => absurd c_6 (by decide)) (fun c_6 => ?_)
  refine lv_aload_n hx hb dX10_keepsProof_20 rfl (lv_at hl 1 rfl) ?_
  refine hk_getr hx hb hts hC_10 hown hW gy td_10 5 (by decide) rfl kw_1148 ⟨rfl, rfl, rfl⟩ f_y_5 dX10_keepsProof_21 ?_
  refine lv_sipush (v := 128) hx hb dX10_keepsProof_24 (by decide) ?_
  refine lv_iload_n hx hb dX10_keepsProof_27 rfl (lv_at hl 2 rfl) ?_
  refine lv_imul hx hb dX10_keepsProof_28 ?_
  refine lv_topi (fun x_7 ex_7 => ?_)
  obtain rfl : x_7 = (128 : Int32) := ex_7.trans (by decide)
  refine lv_iload_n hx hb dX10_keepsProof_29 rfl (lv_at hl 0 rfl) ?_
  refine lv_iadd hx hb dX10_keepsProof_30 ?_
  refine lv_topi (fun x_8 ex_8 => ?_)
  obtain rfl : x_8 = (129 : Int32) := ex_8.trans (by decide)
  refine lv_aload_n hx hb dX10_keepsProof_31 rfl (lv_at hl 1 rfl) ?_
  refine hk_getr hx hb hts hC_10 hown hW gy td_10 15 (by decide) rfl kw_1158 ⟨rfl, rfl, rfl⟩ f_y_15 dX10_keepsProof_32 ?_
  refine lv_iload_n hx hb dX10_keepsProof_35 rfl (lv_at hl 0 rfl) ?_
  refine hk_iald hx hb hW gq1 td_55 rfl (by decide) rfl dX10_keepsProof_36 ?_
  refine hk_iast hx hb hW gq3 td_52 rfl (by decide) rfl dX10_keepsProof_37 (fun H locs h_9 eh_9 hW hs => ?_)
  have f_y_14 := (hs.o gy trivial rfl).1.trans f_y_14
  have f_y_15 := (hs.o gy trivial rfl).2.trans f_y_15
  have f_y_4 := (hs.o gy trivial rfl).2.trans f_y_4
  have f_y_5 := (hs.o gy trivial rfl).2.trans f_y_5
  have hM := hM.tr (hs.mono (by decide))
  have gy := gy.S hs
  have gq1 := gq1.S hs
  have gq2 := gq2.S hs
  have gq3 := gq3.S hs
  refine lv_iinc (v := 2) (lv' := [(2, .int (2 : Int32)), (0, .ref y), (1, .int (1 : Int32))]) hx hb dX10_keepsProof_38 hl (k := 0) rfl (by decide) (by decide) rfl (fun ls hl => ?_)
  refine lv_goto (tgt := 12) hx hb dX10_keepsProof_41 (by decide) ?_
  refine lv_iload_n hx hb dX10_keepsProof_12 rfl (lv_at hl 0 rfl) ?_
  refine lv_aload_n hx hb dX10_keepsProof_13 rfl (lv_at hl 1 rfl) ?_
  refine hk_geti hx hb hts hC_10 hown hW gy td_10 14 (by decide) rfl kw_1157 ⟨rfl, rfl, rfl⟩ f_y_14 dX10_keepsProof_14 ?_
  refine hb_icmp_ge (zx := 2) (zy := 3) (tgt := 44) hx hb (by decide) (by decide) dX10_keepsProof_17 (by decide) (fun c_10 => absurd c_10 (by decide)) (fun c_10 => ?_)
  refine lv_aload_n hx hb dX10_keepsProof_20 rfl (lv_at hl 1 rfl) ?_
  refine hk_getr hx hb hts hC_10 hown hW gy td_10 5 (by decide) rfl kw_1148 ⟨rfl, rfl, rfl⟩ f_y_5 dX10_keepsProof_21 ?_
  refine lv_sipush (v := 128) hx hb dX10_keepsProof_24 (by decide) ?_
  refine lv_iload_n hx hb dX10_keepsProof_27 rfl (lv_at hl 2 rfl) ?_
  refine lv_imul hx hb dX10_keepsProof_28 ?_
  refine lv_topi (fun x_11 ex_11 => ?_)
  obtain rfl : x_11 = (128 : Int32) := ex_11.trans (by decide)
  refine lv_iload_n hx hb dX10_keepsProof_29 rfl (lv_at hl 0 rfl) ?_
  refine lv_iadd hx hb dX10_keepsProof_30 ?_
  refine lv_topi (fun x_12 ex_12 => ?_)
  obtain rfl : x_12 = (130 : Int32) := ex_12.trans (by decide)
  refine lv_aload_n hx hb dX10_keepsProof_31 rfl (lv_at hl 1 rfl) ?_
  refine hk_getr hx hb hts hC_10 hown hW gy td_10 15 (by decide) rfl kw_1158 ⟨rfl, rfl, rfl⟩ f_y_15 dX10_keepsProof_32 ?_
  refine lv_iload_n hx hb dX10_keepsProof_35 rfl (lv_at hl 0 rfl) ?_
  refine hk_iald hx hb hW gq1 td_55 rfl (by decide) rfl dX10_keepsProof_36 ?_
  refine hk_iast hx hb hW gq3 td_52 rfl (by decide) rfl dX10_keepsProof_37 (fun H locs h_13 eh_13 hW hs => ?_)
  have f_y_14 := (hs.o gy trivial rfl).1.trans f_y_14
  have f_y_15 := (hs.o gy trivial rfl).2.trans f_y_15
  have f_y_4 := (hs.o gy trivial rfl).2.trans f_y_4
  have f_y_5 := (hs.o gy trivial rfl).2.trans f_y_5
  have hM := hM.tr (hs.mono (by decide))
  have gy := gy.S hs
  have gq1 := gq1.S hs
  have gq2 := gq2.S hs
  have gq3 := gq3.S hs
  refine lv_iinc (v := 3) (lv' := [(2, .int (3 : Int32)), (0, .ref y), (1, .int (1 : Int32))]) hx hb dX10_keepsProof_38 hl (k := 0) rfl (by decide) (by decide) rfl (fun ls hl => ?_)
  refine lv_goto (tgt := 12) hx hb dX10_keepsProof_41 (by decide) ?_
  refine lv_iload_n hx hb dX10_keepsProof_12 rfl (lv_at hl 0 rfl) ?_
  refine lv_aload_n hx hb dX10_keepsProof_13 rfl (lv_at hl 1 rfl) ?_
  refine hk_geti hx hb hts hC_10 hown hW gy td_10 14 (by decide) rfl kw_1157 ⟨rfl, rfl, rfl⟩ f_y_14 dX10_keepsProof_14 ?_
  refine hb_icmp_ge (zx := 3) (zy := 3) (tgt := 44) hx hb (by decide) (by decide) dX10_keepsProof_17 (by decide) (fun c_14 => ?_) (fun c_14 => absurd c_14 (by decide))
  exact hx_retv hx hb hr hlk hW hM dX10_keepsProof_44


theorem dX10_see_0 : decode cX10_see 0 = .ok (.aload_n 0, 1) := by decide +kernel
theorem dX10_see_1 : decode cX10_see 1 = .ok (.getfield 245, 3) := by decide +kernel
theorem dX10_see_4 : decode cX10_see 4 = .ok (.aload_n 0, 1) := by decide +kernel
theorem dX10_see_5 : decode cX10_see 5 = .ok (.getfield 236, 3) := by decide +kernel
theorem dX10_see_8 : decode cX10_see 8 = .ok (.if_icmp .ge 30, 3) := by decide +kernel
theorem dX10_see_38 : decode cX10_see 38 = .ok (.aload_n 0, 1) := by decide +kernel
theorem dX10_see_39 : decode cX10_see 39 = .ok (.getfield 245, 3) := by decide +kernel
theorem dX10_see_42 : decode cX10_see 42 = .ok (.aload_n 0, 1) := by decide +kernel
theorem dX10_see_43 : decode cX10_see 43 = .ok (.getfield 236, 3) := by decide +kernel
theorem dX10_see_46 : decode cX10_see 46 = .ok (.if_icmp .ge 19, 3) := by decide +kernel
theorem dX10_see_65 : decode cX10_see 65 = .ok (.iconst (-1), 1) := by decide +kernel
theorem dX10_see_66 : decode cX10_see 66 = .ok (.ireturn, 1) := by decide +kernel
set_option maxHeartbeats 4000000 in
set_option maxRecDepth 100000 in
theorem c_X10_see (l : Launch) (dC : Nat → ClassId) (dI : Nat → Nat → Nat) (dA : Nat → ClassId) (L : List Nat) (h : hx_h) (sz : Nat) (y : Nat) (gy : hx_g L h y 10) (f_y_8 : h.2.1 y 8 = 0) (f_y_7 : h.2.1 y 7 = 0) : Met l yX10_see (Cond.code yX10_see cX10_see 1 (some .int) :: hx_all) ({ frames := 0, cells := 0, slots := 0, locals := 0 }) (va_Pc [.ref y] (hx_B P_tb (P_ty dA) (dC, dI) vwCl L h sz)) (va_Qi (fun (r : Int32) (u : List Nat × hx_h) => r = -1 ∧ u = (L, h)) (hx_E P_tb (P_ty dA) (dC, dI) vwCl (hx_A L sz)) (hx_A L sz)) 0 0 (hx_A L sz) := by
  refine hx_met (lv := [(0, .ref y)]) (by decide +kernel) rfl (Nat.le_of_ble_eq_true rfl) rfl ?_
  intro p e s m below meth c hx hb hml hr hlk hts0 hown hin hsz hW ls hl
  have hts : ∀ w ∈ hx_all, w.before _ s = true := fun w hw => hts0 w (List.mem_cons_of_mem _ hw)
  have hown : s.vm.findClass "SmallCourtModel" = some m.cls := hown
  refine lv_aload_n hx hb dX10_see_0 rfl (lv_at hl 0 rfl) ?_
  refine hk_geti hx hb hts hC_10 hown hW gy td_10 8 (by decide) rfl kw_1151 ⟨rfl, rfl, rfl⟩ f_y_8 dX10_see_1 ?_
  refine lv_aload_n hx hb dX10_see_4 rfl (lv_at hl 0 rfl) ?_
  refine hk_geti hx hb hts hC_10 hown hW gy td_10 7 (by decide) rfl kw_1150 ⟨rfl, rfl, rfl⟩ f_y_7 dX10_see_5 ?_
  refine hb_icmp_ge (zx := 0) (zy := 0) (tgt := 38) hx hb (by decide) (by decide) dX10_see_8 (by decide) (fun c_1 => ?_) (fun c_1 => absurd c_1 (by decide))
  refine lv_aload_n hx hb dX10_see_38 rfl (lv_at hl 0 rfl) ?_
  refine hk_geti hx hb hts hC_10 hown hW gy td_10 8 (by decide) rfl kw_1151 ⟨rfl, rfl, rfl⟩ f_y_8 dX10_see_39 ?_
  refine lv_aload_n hx hb dX10_see_42 rfl (lv_at hl 0 rfl) ?_
  refine hk_geti hx hb hts hC_10 hown hW gy td_10 7 (by decide) rfl kw_1150 ⟨rfl, rfl, rfl⟩ f_y_7 dX10_see_43 ?_
  refine hb_icmp_ge (zx := 0) (zy := 0) (tgt := 65) hx hb (by decide) (by decide) dX10_see_46 (by decide) (fun c_2 => ?_) (fun c_2 => absurd c_2 (by decide))
  refine lv_iconst (v := -1) hx hb dX10_see_65 (by decide) ?_
  exact hx_reti hx hb hr hlk hW ⟨rfl, rfl⟩ dX10_see_66


theorem dX10_act_0 : decode cX10_act 0 = .ok (.aload_n 0, 1) := by decide +kernel
theorem dX10_act_1 : decode cX10_act 1 = .ok (.getfield 321, 3) := by decide +kernel
theorem dX10_act_4 : decode cX10_act 4 = .ok (.bipush 8, 2) := by decide +kernel
theorem dX10_act_6 : decode cX10_act 6 = .ok (.if_icmp .eq 10, 3) := by decide +kernel
theorem dX10_act_9 : decode cX10_act 9 = .ok (.iload_n 1, 1) := by decide +kernel
theorem dX10_act_10 : decode cX10_act 10 = .ok (.invokestatic 324, 3) := by decide +kernel
theorem dX10_act_13 : decode cX10_act 13 = .ok (.ifCond .ne 5, 3) := by decide +kernel
theorem dX10_act_16 : decode cX10_act 16 = .ok (.iconst (-1), 1) := by decide +kernel
theorem dX10_act_17 : decode cX10_act 17 = .ok (.ireturn, 1) := by decide +kernel
theorem dX10_act_18 : decode cX10_act 18 = .ok (.aload_n 0, 1) := by decide +kernel
theorem dX10_act_19 : decode cX10_act 19 = .ok (.iconst 0, 1) := by decide +kernel
theorem dX10_act_20 : decode cX10_act 20 = .ok (.putfield 245, 3) := by decide +kernel
theorem dX10_act_23 : decode cX10_act 23 = .ok (.aload_n 0, 1) := by decide +kernel
theorem dX10_act_24 : decode cX10_act 24 = .ok (.iconst 0, 1) := by decide +kernel
theorem dX10_act_25 : decode cX10_act 25 = .ok (.putfield 242, 3) := by decide +kernel
theorem dX10_act_28 : decode cX10_act 28 = .ok (.aload_n 0, 1) := by decide +kernel
theorem dX10_act_29 : decode cX10_act 29 = .ok (.iconst 0, 1) := by decide +kernel
theorem dX10_act_30 : decode cX10_act 30 = .ok (.putfield 306, 3) := by decide +kernel
theorem dX10_act_33 : decode cX10_act 33 = .ok (.iconst 0, 1) := by decide +kernel
theorem dX10_act_34 : decode cX10_act 34 = .ok (.istore_n 2, 1) := by decide +kernel
theorem dX10_act_35 : decode cX10_act 35 = .ok (.iload_n 2, 1) := by decide +kernel
theorem dX10_act_36 : decode cX10_act 36 = .ok (.bipush 13, 2) := by decide +kernel
theorem dX10_act_38 : decode cX10_act 38 = .ok (.if_icmp .ge 19, 3) := by decide +kernel
theorem dX10_act_41 : decode cX10_act 41 = .ok (.aload_n 0, 1) := by decide +kernel
theorem dX10_act_42 : decode cX10_act 42 = .ok (.getfield 26, 3) := by decide +kernel
theorem dX10_act_45 : decode cX10_act 45 = .ok (.iload_n 2, 1) := by decide +kernel
theorem dX10_act_46 : decode cX10_act 46 = .ok (.iload_n 2, 1) := by decide +kernel
theorem dX10_act_47 : decode cX10_act 47 = .ok (.invokestatic 214, 3) := by decide +kernel
theorem dX10_act_50 : decode cX10_act 50 = .ok (.iastore, 1) := by decide +kernel
theorem dX10_act_51 : decode cX10_act 51 = .ok (.iinc 2 1, 3) := by decide +kernel
theorem dX10_act_54 : decode cX10_act 54 = .ok (.goto (-19), 3) := by decide +kernel
theorem dX10_act_57 : decode cX10_act 57 = .ok (.aload_n 0, 1) := by decide +kernel
theorem dX10_act_58 : decode cX10_act 58 = .ok (.invokevirtual 218, 3) := by decide +kernel
theorem dX10_act_61 : decode cX10_act 61 = .ok (.aload_n 0, 1) := by decide +kernel
theorem dX10_act_62 : decode cX10_act 62 = .ok (.invokevirtual 221, 3) := by decide +kernel
theorem dX10_act_65 : decode cX10_act 65 = .ok (.iconst 1, 1) := by decide +kernel
theorem dX10_act_66 : decode cX10_act 66 = .ok (.istore_n 2, 1) := by decide +kernel
theorem dX10_act_67 : decode cX10_act 67 = .ok (.aload_n 0, 1) := by decide +kernel
theorem dX10_act_68 : decode cX10_act 68 = .ok (.invokevirtual 248, 3) := by decide +kernel
theorem dX10_act_71 : decode cX10_act 71 = .ok (.iconst (-1), 1) := by decide +kernel
theorem dX10_act_72 : decode cX10_act 72 = .ok (.if_icmp .eq 7, 3) := by decide +kernel
theorem dX10_act_79 : decode cX10_act 79 = .ok (.iconst 0, 1) := by decide +kernel
theorem dX10_act_80 : decode cX10_act 80 = .ok (.istore_n 3, 1) := by decide +kernel
theorem dX10_act_81 : decode cX10_act 81 = .ok (.iload_n 2, 1) := by decide +kernel
theorem dX10_act_82 : decode cX10_act 82 = .ok (.ifCond .eq 96, 3) := by decide +kernel
theorem dX10_act_85 : decode cX10_act 85 = .ok (.iload_n 3, 1) := by decide +kernel
theorem dX10_act_86 : decode cX10_act 86 = .ok (.ifCond .eq 92, 3) := by decide +kernel
theorem dX10_act_178 : decode cX10_act 178 = .ok (.aload_n 0, 1) := by decide +kernel
theorem dX10_act_179 : decode cX10_act 179 = .ok (.iconst 0, 1) := by decide +kernel
theorem dX10_act_180 : decode cX10_act 180 = .ok (.putfield 236, 3) := by decide +kernel
theorem dX10_act_183 : decode cX10_act 183 = .ok (.iload_n 2, 1) := by decide +kernel
theorem dX10_act_184 : decode cX10_act 184 = .ok (.ifCond .ne 11, 3) := by decide +kernel
theorem dX10_act_195 : decode cX10_act 195 = .ok (.aload_n 0, 1) := by decide +kernel
theorem dX10_act_196 : decode cX10_act 196 = .ok (.dup, 1) := by decide +kernel
theorem dX10_act_197 : decode cX10_act 197 = .ok (.getfield 321, 3) := by decide +kernel
theorem dX10_act_200 : decode cX10_act 200 = .ok (.iconst 1, 1) := by decide +kernel
theorem dX10_act_201 : decode cX10_act 201 = .ok (.iadd, 1) := by decide +kernel
theorem dX10_act_202 : decode cX10_act 202 = .ok (.putfield 321, 3) := by decide +kernel
theorem dX10_act_205 : decode cX10_act 205 = .ok (.aload_n 0, 1) := by decide +kernel
theorem dX10_act_206 : decode cX10_act 206 = .ok (.getfield 7, 3) := by decide +kernel
theorem dX10_act_209 : decode cX10_act 209 = .ok (.aload_n 0, 1) := by decide +kernel
theorem dX10_act_210 : decode cX10_act 210 = .ok (.getfield 321, 3) := by decide +kernel
theorem dX10_act_213 : decode cX10_act 213 = .ok (.iload_n 1, 1) := by decide +kernel
theorem dX10_act_214 : decode cX10_act 214 = .ok (.iastore, 1) := by decide +kernel
theorem dX10_act_215 : decode cX10_act 215 = .ok (.iconst 0, 1) := by decide +kernel
theorem dX10_act_216 : decode cX10_act 216 = .ok (.istore 4, 2) := by decide +kernel
theorem dX10_act_218 : decode cX10_act 218 = .ok (.iload 4, 2) := by decide +kernel
theorem dX10_act_220 : decode cX10_act 220 = .ok (.bipush 13, 2) := by decide +kernel
theorem dX10_act_222 : decode cX10_act 222 = .ok (.if_icmp .ge 31, 3) := by decide +kernel
theorem dX10_act_225 : decode cX10_act 225 = .ok (.aload_n 0, 1) := by decide +kernel
theorem dX10_act_226 : decode cX10_act 226 = .ok (.getfield 13, 3) := by decide +kernel
theorem dX10_act_229 : decode cX10_act 229 = .ok (.bipush 13, 2) := by decide +kernel
theorem dX10_act_231 : decode cX10_act 231 = .ok (.aload_n 0, 1) := by decide +kernel
theorem dX10_act_232 : decode cX10_act 232 = .ok (.getfield 321, 3) := by decide +kernel
theorem dX10_act_235 : decode cX10_act 235 = .ok (.imul, 1) := by decide +kernel
theorem dX10_act_236 : decode cX10_act 236 = .ok (.iload 4, 2) := by decide +kernel
theorem dX10_act_238 : decode cX10_act 238 = .ok (.iadd, 1) := by decide +kernel
theorem dX10_act_239 : decode cX10_act 239 = .ok (.aload_n 0, 1) := by decide +kernel
theorem dX10_act_240 : decode cX10_act 240 = .ok (.getfield 26, 3) := by decide +kernel
theorem dX10_act_243 : decode cX10_act 243 = .ok (.iload 4, 2) := by decide +kernel
theorem dX10_act_245 : decode cX10_act 245 = .ok (.iaload, 1) := by decide +kernel
theorem dX10_act_246 : decode cX10_act 246 = .ok (.iastore, 1) := by decide +kernel
theorem dX10_act_247 : decode cX10_act 247 = .ok (.iinc 4 1, 3) := by decide +kernel
theorem dX10_act_250 : decode cX10_act 250 = .ok (.goto (-32), 3) := by decide +kernel
theorem dX10_act_253 : decode cX10_act 253 = .ok (.aload_n 0, 1) := by decide +kernel
theorem dX10_act_254 : decode cX10_act 254 = .ok (.aload_n 0, 1) := by decide +kernel
theorem dX10_act_255 : decode cX10_act 255 = .ok (.getfield 321, 3) := by decide +kernel
theorem dX10_act_258 : decode cX10_act 258 = .ok (.invokevirtual 224, 3) := by decide +kernel
theorem dX10_act_261 : decode cX10_act 261 = .ok (.aload_n 0, 1) := by decide +kernel
theorem dX10_act_262 : decode cX10_act 262 = .ok (.getfield 321, 3) := by decide +kernel
theorem dX10_act_265 : decode cX10_act 265 = .ok (.iconst 1, 1) := by decide +kernel
theorem dX10_act_266 : decode cX10_act 266 = .ok (.isub, 1) := by decide +kernel
theorem dX10_act_267 : decode cX10_act 267 = .ok (.ireturn, 1) := by decide +kernel
set_option maxHeartbeats 4000000 in
set_option maxRecDepth 100000 in
theorem c_X10_act (l : Launch) (dC : Nat → ClassId) (dI : Nat → Nat → Nat) (dA : Nat → ClassId) (L : List Nat) (h : hx_h) (sz : Nat) (y : Nat) (d : Int32) (gy : hx_g L h y 10) (f_y_1 : h.2.1 y 1 = 0) (f_y_7 : h.2.1 y 7 = 0) (q4 : Nat) (gq4 : hx_g L h q4 54) (f_y_12 : h.2.2 y 12 = some q4) (q1 : Nat) (gq1 : hx_g L h q1 55) (f_y_15 : h.2.2 y 15 = some q1) (q2 : Nat) (gq2 : hx_g L h q2 51) (f_y_4 : h.2.2 y 4 = some q2) (q3 : Nat) (gq3 : hx_g L h q3 52) (f_y_5 : h.2.2 y 5 = some q3) (q5 : Nat) (gq5 : hx_g L h q5 49) (f_y_2 : h.2.2 y 2 = some q5) (q6 : Nat) (gq6 : hx_g L h q6 50) (f_y_3 : h.2.2 y 3 = some q6) : Met l yX10_act (Cond.code yX10_act cX10_act 5 (some .int) :: hx_all) ({ frames := 2, cells := 0, slots := 0, locals := 42 }) (va_Pc [.ref y, .int d] (hx_B P_tb (P_ty dA) (dC, dI) vwCl L h sz)) (va_Qi (fun (r : Int32) (u : List Nat × hx_h) => ((0 ≤ d.toInt ∧ d.toInt ≤ 7999) ∧ r = 0 ∨ ¬ (0 ≤ d.toInt ∧ d.toInt ≤ 7999) ∧ r = -1) ∧ hx_S P_tb [(10, 1), (10, 7), (10, 8), (10, 9), (10, 13), (10, 14), (10, 16), (10, 18), (49, 0), (50, 0), (51, 0), (52, 0), (54, 0), (55, 0)] L h u.1 u.2) (hx_E P_tb (P_ty dA) (dC, dI) vwCl (hx_A L sz)) (hx_A L sz)) 0 0 (hx_A L sz) := by
  refine hx_met (lv := [(0, .ref y), (1, .int d)]) (by decide +kernel) rfl (Nat.le_of_ble_eq_true rfl) rfl ?_
  intro p e s m below meth c hx hb hml hr hlk hts0 hown hin hsz hW ls hl
  have hts : ∀ w ∈ hx_all, w.before _ s = true := fun w hw => hts0 w (List.mem_cons_of_mem _ hw)
  have hown : s.vm.findClass "SmallCourtModel" = some m.cls := hown
  have hM : hx_S P_tb [(10, 1), (10, 7), (10, 8), (10, 9), (10, 13), (10, 14), (10, 16), (10, 18), (49, 0), (50, 0), (51, 0), (52, 0), (54, 0), (55, 0)] L h L h := hx_S.rf
  refine lv_aload_n hx hb dX10_act_0 rfl (lv_at hl 0 rfl) ?_
  refine hk_geti hx hb hts hC_10 hown hW gy td_10 1 (by decide) rfl kw_1144 ⟨rfl, rfl, rfl⟩ f_y_1 dX10_act_1 ?_
  refine lv_bipush (v := 8) hx hb dX10_act_4 (by decide) ?_
  refine hb_icmp_eq (zx := 0) (zy := 8) (tgt := 16) hx hb (by decide) (by decide) dX10_act_6 (by decide) (fun c_1 => absurd c_1 (by decide)) (fun c_1 => ?_)
  refine lv_iload_n hx hb dX10_act_9 rfl (lv_at hl 1 rfl) ?_
  refine hx_goi (hx_runS (As := [.int d]) (rest := []) ⟨hx, hb, hml, hown, hts⟩ hW (c_X10_isDay l dC dI dA L h s.heap.size d) (va_cwS 1 hts (hx_gS kw_1464 kw_1462 kw_1463 kw_103) rfl rfl rfl (by decide +kernel) ⟨Nat.le_of_ble_eq_true rfl, Nat.le_of_ble_eq_true rfl⟩) rfl hl.1 rfl (Nat.le_of_ble_eq_true rfl) dX10_act_10 ⟨Nat.le_of_ble_eq_true rfl, Nat.le_of_ble_eq_true rfl⟩) hW (fun r_4 L_2 h_3 H locs p_5 hW => ?_)
  obtain ⟨p_5, eu⟩ := p_5
  cases eu
  rcases p_5 with ⟨kp_5, rfl⟩ | ⟨kp_5, rfl⟩
  · skip
    refine hb_if_ne (zx := 1) (tgt := 18) hx hb (by decide) dX10_act_13 (by decide) (fun c_6 => ?_) (fun c_6 => absurd c_6 (by decide))
    refine lv_aload_n hx hb dX10_act_18 rfl (lv_at hl 0 rfl) ?_
    refine lv_iconst (v := 0) hx hb dX10_act_19 (by decide) ?_
    refine hk_puti hx hb hts hC_10 hown hW gy td_10 8 (by decide) rfl kw_1151 ⟨rfl, rfl, rfl⟩ rfl (x := (0 : Int32)) rfl rfl rfl dX10_act_20 (fun H locs h_7 eh_7 hW hs => ?_)
    have f_y_1 := (hs.o gy trivial rfl).1.trans f_y_1
    have f_y_7 := (hs.o gy trivial rfl).1.trans f_y_7
    have f_y_12 := (hs.o gy trivial rfl).2.trans f_y_12
    have f_y_15 := (hs.o gy trivial rfl).2.trans f_y_15
    have f_y_4 := (hs.o gy trivial rfl).2.trans f_y_4
    have f_y_5 := (hs.o gy trivial rfl).2.trans f_y_5
    have f_y_2 := (hs.o gy trivial rfl).2.trans f_y_2
    have f_y_3 := (hs.o gy trivial rfl).2.trans f_y_3
    have hM := hM.tr (hs.mono (by decide))
    have gy := gy.S hs
    have gq4 := gq4.S hs
    have gq1 := gq1.S hs
    have gq2 := gq2.S hs
    have gq3 := gq3.S hs
    have gq5 := gq5.S hs
    have gq6 := gq6.S hs
    have f_8 : h_7.2.1 y 8 = (0 : Int32) := by rw [eh_7]; exact hx_pi_at _ _ _ _
    refine lv_aload_n hx hb dX10_act_23 rfl (lv_at hl 0 rfl) ?_
    refine lv_iconst (v := 0) hx hb dX10_act_24 (by decide) ?_
    refine hk_puti hx hb hts hC_10 hown hW gy td_10 9 (by decide) rfl kw_1152 ⟨rfl, rfl, rfl⟩ rfl (x := (0 : Int32)) rfl rfl rfl dX10_act_25 (fun H locs h_9 eh_9 hW hs => ?_)
    have f_y_1 := (hs.o gy trivial rfl).1.trans f_y_1
    have f_y_7 := (hs.o gy trivial rfl).1.trans f_y_7
    have f_y_12 := (hs.o gy trivial rfl).2.trans f_y_12
    have f_y_15 := (hs.o gy trivial rfl).2.trans f_y_15
    have f_y_4 := (hs.o gy trivial rfl).2.trans f_y_4
    have f_y_5 := (hs.o gy trivial rfl).2.trans f_y_5
    have f_y_2 := (hs.o gy trivial rfl).2.trans f_y_2
    have f_y_3 := (hs.o gy trivial rfl).2.trans f_y_3
    have f_8 := (hs.o gy trivial rfl).1.trans f_8
    have hM := hM.tr (hs.mono (by decide))
    have gy := gy.S hs
    have gq4 := gq4.S hs
    have gq1 := gq1.S hs
    have gq2 := gq2.S hs
    have gq3 := gq3.S hs
    have gq5 := gq5.S hs
    have gq6 := gq6.S hs
    have f_10 : h_9.2.1 y 9 = (0 : Int32) := by rw [eh_9]; exact hx_pi_at _ _ _ _
    refine lv_aload_n hx hb dX10_act_28 rfl (lv_at hl 0 rfl) ?_
    refine lv_iconst (v := 0) hx hb dX10_act_29 (by decide) ?_
    refine hk_puti hx hb hts hC_10 hown hW gy td_10 13 (by decide) rfl kw_1156 ⟨rfl, rfl, rfl⟩ rfl (x := (0 : Int32)) rfl rfl rfl dX10_act_30 (fun H locs h_11 eh_11 hW hs => ?_)
    have f_y_1 := (hs.o gy trivial rfl).1.trans f_y_1
    have f_y_7 := (hs.o gy trivial rfl).1.trans f_y_7
    have f_y_12 := (hs.o gy trivial rfl).2.trans f_y_12
    have f_y_15 := (hs.o gy trivial rfl).2.trans f_y_15
    have f_y_4 := (hs.o gy trivial rfl).2.trans f_y_4
    have f_y_5 := (hs.o gy trivial rfl).2.trans f_y_5
    have f_y_2 := (hs.o gy trivial rfl).2.trans f_y_2
    have f_y_3 := (hs.o gy trivial rfl).2.trans f_y_3
    have f_8 := (hs.o gy trivial rfl).1.trans f_8
    have f_10 := (hs.o gy trivial rfl).1.trans f_10
    have hM := hM.tr (hs.mono (by decide))
    have gy := gy.S hs
    have gq4 := gq4.S hs
    have gq1 := gq1.S hs
    have gq2 := gq2.S hs
    have gq3 := gq3.S hs
    have gq5 := gq5.S hs
    have gq6 := gq6.S hs
    have f_12 : h_11.2.1 y 13 = (0 : Int32) := by rw [eh_11]; exact hx_pi_at _ _ _ _
    refine lv_iconst (v := 0) hx hb dX10_act_33 (by decide) ?_
    refine lv_istore_n (lv' := [(2, .int (0 : Int32)), (0, .ref y), (1, .int d)]) hx hb dX10_act_34 rfl hl (by decide) rfl (fun ls hl => ?_)
    refine lv_iload_n hx hb dX10_act_35 rfl (lv_at hl 0 rfl) ?_
    refine lv_bipush (v := 13) hx hb dX10_act_36 (by decide) ?_
    refine hb_icmp_ge (zx := 0) (zy := 13) (tgt := 57) hx hb (by decide) (by decide) dX10_act_38 (by decide) (fun c_13 => absurd c_13 (by decide)) (fun c_13 => ?_)
    refine lv_aload_n hx hb dX10_act_41 rfl (lv_at hl 1 rfl) ?_
    refine hk_getr hx hb hts hC_10 hown hW gy td_10 12 (by decide) rfl kw_1155 ⟨rfl, rfl, rfl⟩ f_y_12 dX10_act_42 ?_
    refine lv_iload_n hx hb dX10_act_45 rfl (lv_at hl 0 rfl) ?_
    refine lv_iload_n hx hb dX10_act_46 rfl (lv_at hl 0 rfl) ?_
    refine hx_goi (hx_runS (As := [.int (0 : Int32)]) (rest := [.int (0 : Int32), .ref q4]) ⟨hx, hb, hml, hown, hts⟩ hW (c_X10_without_0 l dC dI dA L h_11 H.size ) (va_cwS 1 hts (hx_gS kw_1121 kw_1119 kw_1120 kw_103) rfl rfl rfl (by decide +kernel) ⟨Nat.le_of_ble_eq_true rfl, Nat.le_of_ble_eq_true rfl⟩) rfl hl.1 rfl (Nat.le_of_ble_eq_true rfl) dX10_act_47 ⟨Nat.le_of_ble_eq_true rfl, Nat.le_of_ble_eq_true rfl⟩) hW (fun r_16 L_14 h_15 H locs p_17 hW => ?_)
    obtain ⟨rfl, eu⟩ := p_17
    cases eu
    refine hk_iast hx hb hW gq4 td_54 rfl (by decide) rfl dX10_act_50 (fun H locs h_18 eh_18 hW hs => ?_)
    have f_y_1 := (hs.o gy trivial rfl).1.trans f_y_1
    have f_y_7 := (hs.o gy trivial rfl).1.trans f_y_7
    have f_y_12 := (hs.o gy trivial rfl).2.trans f_y_12
    have f_y_15 := (hs.o gy trivial rfl).2.trans f_y_15
    have f_y_4 := (hs.o gy trivial rfl).2.trans f_y_4
    have f_y_5 := (hs.o gy trivial rfl).2.trans f_y_5
    have f_y_2 := (hs.o gy trivial rfl).2.trans f_y_2
    have f_y_3 := (hs.o gy trivial rfl).2.trans f_y_3
    have f_8 := (hs.o gy trivial rfl).1.trans f_8
    have f_10 := (hs.o gy trivial rfl).1.trans f_10
    have f_12 := (hs.o gy trivial rfl).1.trans f_12
    have hM := hM.tr (hs.mono (by decide))
    have gy := gy.S hs
    have gq4 := gq4.S hs
    have gq1 := gq1.S hs
    have gq2 := gq2.S hs
    have gq3 := gq3.S hs
    have gq5 := gq5.S hs
    have gq6 := gq6.S hs
    refine lv_iinc (v := 1) (lv' := [(2, .int (1 : Int32)), (0, .ref y), (1, .int d)]) hx hb dX10_act_51 hl (k := 0) rfl (by decide) (by decide) rfl (fun ls hl => ?_)
    refine lv_goto (tgt := 35) hx hb dX10_act_54 (by decide) ?_
    refine lv_iload_n hx hb dX10_act_35 rfl (lv_at hl 0 rfl) ?_
    refine lv_bipush (v := 13) hx hb dX10_act_36 (by decide) ?_
    refine hb_icmp_ge (zx := 1) (zy := 13) (tgt := 57) hx hb (by decide) (by decide) dX10_act_38 (by decide) (fun c_19 => absurd c_19 (by decide)) (fun c_19 => ?_)
    refine lv_aload_n hx hb dX10_act_41 rfl (lv_at hl 1 rfl) ?_
    refine hk_getr hx hb hts hC_10 hown hW gy td_10 12 (by decide) rfl kw_1155 ⟨rfl, rfl, rfl⟩ f_y_12 dX10_act_42 ?_
    refine lv_iload_n hx hb dX10_act_45 rfl (lv_at hl 0 rfl) ?_
    refine lv_iload_n hx hb dX10_act_46 rfl (lv_at hl 0 rfl) ?_
    refine hx_goi (hx_runS (As := [.int (1 : Int32)]) (rest := [.int (1 : Int32), .ref q4]) ⟨hx, hb, hml, hown, hts⟩ hW (c_X10_without_1 l dC dI dA L h_18 H.size ) (va_cwS 1 hts (hx_gS kw_1121 kw_1119 kw_1120 kw_103) rfl rfl rfl (by decide +kernel) ⟨Nat.le_of_ble_eq_true rfl, Nat.le_of_ble_eq_true rfl⟩) rfl hl.1 rfl (Nat.le_of_ble_eq_true rfl) dX10_act_47 ⟨Nat.le_of_ble_eq_true rfl, Nat.le_of_ble_eq_true rfl⟩) hW (fun r_22 L_20 h_21 H locs p_23 hW => ?_)
    obtain ⟨rfl, eu⟩ := p_23
    cases eu
    refine hk_iast hx hb hW gq4 td_54 rfl (by decide) rfl dX10_act_50 (fun H locs h_24 eh_24 hW hs => ?_)
    have f_y_1 := (hs.o gy trivial rfl).1.trans f_y_1
    have f_y_7 := (hs.o gy trivial rfl).1.trans f_y_7
    have f_y_12 := (hs.o gy trivial rfl).2.trans f_y_12
    have f_y_15 := (hs.o gy trivial rfl).2.trans f_y_15
    have f_y_4 := (hs.o gy trivial rfl).2.trans f_y_4
    have f_y_5 := (hs.o gy trivial rfl).2.trans f_y_5
    have f_y_2 := (hs.o gy trivial rfl).2.trans f_y_2
    have f_y_3 := (hs.o gy trivial rfl).2.trans f_y_3
    have f_8 := (hs.o gy trivial rfl).1.trans f_8
    have f_10 := (hs.o gy trivial rfl).1.trans f_10
    have f_12 := (hs.o gy trivial rfl).1.trans f_12
    have hM := hM.tr (hs.mono (by decide))
    have gy := gy.S hs
    have gq4 := gq4.S hs
    have gq1 := gq1.S hs
    have gq2 := gq2.S hs
    have gq3 := gq3.S hs
    have gq5 := gq5.S hs
    have gq6 := gq6.S hs
    refine lv_iinc (v := 2) (lv' := [(2, .int (2 : Int32)), (0, .ref y), (1, .int d)]) hx hb dX10_act_51 hl (k := 0) rfl (by decide) (by decide) rfl (fun ls hl => ?_)
    refine lv_goto (tgt := 35) hx hb dX10_act_54 (by decide) ?_
    refine lv_iload_n hx hb dX10_act_35 rfl (lv_at hl 0 rfl) ?_
    refine lv_bipush (v := 13) hx hb dX10_act_36 (by decide) ?_
    refine hb_icmp_ge (zx := 2) (zy := 13) (tgt := 57) hx hb (by decide) (by decide) dX10_act_38 (by decide) (fun c_25 => absurd c_25 (by decide)) (fun c_25 => ?_)
    refine lv_aload_n hx hb dX10_act_41 rfl (lv_at hl 1 rfl) ?_
    refine hk_getr hx hb hts hC_10 hown hW gy td_10 12 (by decide) rfl kw_1155 ⟨rfl, rfl, rfl⟩ f_y_12 dX10_act_42 ?_
    refine lv_iload_n hx hb dX10_act_45 rfl (lv_at hl 0 rfl) ?_
    refine lv_iload_n hx hb dX10_act_46 rfl (lv_at hl 0 rfl) ?_
    refine hx_goi (hx_runS (As := [.int (2 : Int32)]) (rest := [.int (2 : Int32), .ref q4]) ⟨hx, hb, hml, hown, hts⟩ hW (c_X10_without_2 l dC dI dA L h_24 H.size ) (va_cwS 1 hts (hx_gS kw_1121 kw_1119 kw_1120 kw_103) rfl rfl rfl (by decide +kernel) ⟨Nat.le_of_ble_eq_true rfl, Nat.le_of_ble_eq_true rfl⟩) rfl hl.1 rfl (Nat.le_of_ble_eq_true rfl) dX10_act_47 ⟨Nat.le_of_ble_eq_true rfl, Nat.le_of_ble_eq_true rfl⟩) hW (fun r_28 L_26 h_27 H locs p_29 hW => ?_)
    obtain ⟨rfl, eu⟩ := p_29
    cases eu
    refine hk_iast hx hb hW gq4 td_54 rfl (by decide) rfl dX10_act_50 (fun H locs h_30 eh_30 hW hs => ?_)
    have f_y_1 := (hs.o gy trivial rfl).1.trans f_y_1
    have f_y_7 := (hs.o gy trivial rfl).1.trans f_y_7
    have f_y_12 := (hs.o gy trivial rfl).2.trans f_y_12
    have f_y_15 := (hs.o gy trivial rfl).2.trans f_y_15
    have f_y_4 := (hs.o gy trivial rfl).2.trans f_y_4
    have f_y_5 := (hs.o gy trivial rfl).2.trans f_y_5
    have f_y_2 := (hs.o gy trivial rfl).2.trans f_y_2
    have f_y_3 := (hs.o gy trivial rfl).2.trans f_y_3
    have f_8 := (hs.o gy trivial rfl).1.trans f_8
    have f_10 := (hs.o gy trivial rfl).1.trans f_10
    have f_12 := (hs.o gy trivial rfl).1.trans f_12
    have hM := hM.tr (hs.mono (by decide))
    have gy := gy.S hs
    have gq4 := gq4.S hs
    have gq1 := gq1.S hs
    have gq2 := gq2.S hs
    have gq3 := gq3.S hs
    have gq5 := gq5.S hs
    have gq6 := gq6.S hs
    refine lv_iinc (v := 3) (lv' := [(2, .int (3 : Int32)), (0, .ref y), (1, .int d)]) hx hb dX10_act_51 hl (k := 0) rfl (by decide) (by decide) rfl (fun ls hl => ?_)
    refine lv_goto (tgt := 35) hx hb dX10_act_54 (by decide) ?_
    refine lv_iload_n hx hb dX10_act_35 rfl (lv_at hl 0 rfl) ?_
    refine lv_bipush (v := 13) hx hb dX10_act_36 (by decide) ?_
    refine hb_icmp_ge (zx := 3) (zy := 13) (tgt := 57) hx hb (by decide) (by decide) dX10_act_38 (by decide) (fun c_31 => absurd c_31 (by decide)) (fun c_31 => ?_)
    refine lv_aload_n hx hb dX10_act_41 rfl (lv_at hl 1 rfl) ?_
    refine hk_getr hx hb hts hC_10 hown hW gy td_10 12 (by decide) rfl kw_1155 ⟨rfl, rfl, rfl⟩ f_y_12 dX10_act_42 ?_
    refine lv_iload_n hx hb dX10_act_45 rfl (lv_at hl 0 rfl) ?_
    refine lv_iload_n hx hb dX10_act_46 rfl (lv_at hl 0 rfl) ?_
    refine hx_goi (hx_runS (As := [.int (3 : Int32)]) (rest := [.int (3 : Int32), .ref q4]) ⟨hx, hb, hml, hown, hts⟩ hW (c_X10_without_3 l dC dI dA L h_30 H.size ) (va_cwS 1 hts (hx_gS kw_1121 kw_1119 kw_1120 kw_103) rfl rfl rfl (by decide +kernel) ⟨Nat.le_of_ble_eq_true rfl, Nat.le_of_ble_eq_true rfl⟩) rfl hl.1 rfl (Nat.le_of_ble_eq_true rfl) dX10_act_47 ⟨Nat.le_of_ble_eq_true rfl, Nat.le_of_ble_eq_true rfl⟩) hW (fun r_34 L_32 h_33 H locs p_35 hW => ?_)
    obtain ⟨rfl, eu⟩ := p_35
    cases eu
    refine hk_iast hx hb hW gq4 td_54 rfl (by decide) rfl dX10_act_50 (fun H locs h_36 eh_36 hW hs => ?_)
    have f_y_1 := (hs.o gy trivial rfl).1.trans f_y_1
    have f_y_7 := (hs.o gy trivial rfl).1.trans f_y_7
    have f_y_12 := (hs.o gy trivial rfl).2.trans f_y_12
    have f_y_15 := (hs.o gy trivial rfl).2.trans f_y_15
    have f_y_4 := (hs.o gy trivial rfl).2.trans f_y_4
    have f_y_5 := (hs.o gy trivial rfl).2.trans f_y_5
    have f_y_2 := (hs.o gy trivial rfl).2.trans f_y_2
    have f_y_3 := (hs.o gy trivial rfl).2.trans f_y_3
    have f_8 := (hs.o gy trivial rfl).1.trans f_8
    have f_10 := (hs.o gy trivial rfl).1.trans f_10
    have f_12 := (hs.o gy trivial rfl).1.trans f_12
    have hM := hM.tr (hs.mono (by decide))
    have gy := gy.S hs
    have gq4 := gq4.S hs
    have gq1 := gq1.S hs
    have gq2 := gq2.S hs
    have gq3 := gq3.S hs
    have gq5 := gq5.S hs
    have gq6 := gq6.S hs
    refine lv_iinc (v := 4) (lv' := [(2, .int (4 : Int32)), (0, .ref y), (1, .int d)]) hx hb dX10_act_51 hl (k := 0) rfl (by decide) (by decide) rfl (fun ls hl => ?_)
    refine lv_goto (tgt := 35) hx hb dX10_act_54 (by decide) ?_
    refine lv_iload_n hx hb dX10_act_35 rfl (lv_at hl 0 rfl) ?_
    refine lv_bipush (v := 13) hx hb dX10_act_36 (by decide) ?_
    refine hb_icmp_ge (zx := 4) (zy := 13) (tgt := 57) hx hb (by decide) (by decide) dX10_act_38 (by decide) (fun c_37 => absurd c_37 (by decide)) (fun c_37 => ?_)
    refine lv_aload_n hx hb dX10_act_41 rfl (lv_at hl 1 rfl) ?_
    refine hk_getr hx hb hts hC_10 hown hW gy td_10 12 (by decide) rfl kw_1155 ⟨rfl, rfl, rfl⟩ f_y_12 dX10_act_42 ?_
    refine lv_iload_n hx hb dX10_act_45 rfl (lv_at hl 0 rfl) ?_
    refine lv_iload_n hx hb dX10_act_46 rfl (lv_at hl 0 rfl) ?_
    refine hx_goi (hx_runS (As := [.int (4 : Int32)]) (rest := [.int (4 : Int32), .ref q4]) ⟨hx, hb, hml, hown, hts⟩ hW (c_X10_without_4 l dC dI dA L h_36 H.size ) (va_cwS 1 hts (hx_gS kw_1121 kw_1119 kw_1120 kw_103) rfl rfl rfl (by decide +kernel) ⟨Nat.le_of_ble_eq_true rfl, Nat.le_of_ble_eq_true rfl⟩) rfl hl.1 rfl (Nat.le_of_ble_eq_true rfl) dX10_act_47 ⟨Nat.le_of_ble_eq_true rfl, Nat.le_of_ble_eq_true rfl⟩) hW (fun r_40 L_38 h_39 H locs p_41 hW => ?_)
    obtain ⟨rfl, eu⟩ := p_41
    cases eu
    refine hk_iast hx hb hW gq4 td_54 rfl (by decide) rfl dX10_act_50 (fun H locs h_42 eh_42 hW hs => ?_)
    have f_y_1 := (hs.o gy trivial rfl).1.trans f_y_1
    have f_y_7 := (hs.o gy trivial rfl).1.trans f_y_7
    have f_y_12 := (hs.o gy trivial rfl).2.trans f_y_12
    have f_y_15 := (hs.o gy trivial rfl).2.trans f_y_15
    have f_y_4 := (hs.o gy trivial rfl).2.trans f_y_4
    have f_y_5 := (hs.o gy trivial rfl).2.trans f_y_5
    have f_y_2 := (hs.o gy trivial rfl).2.trans f_y_2
    have f_y_3 := (hs.o gy trivial rfl).2.trans f_y_3
    have f_8 := (hs.o gy trivial rfl).1.trans f_8
    have f_10 := (hs.o gy trivial rfl).1.trans f_10
    have f_12 := (hs.o gy trivial rfl).1.trans f_12
    have hM := hM.tr (hs.mono (by decide))
    have gy := gy.S hs
    have gq4 := gq4.S hs
    have gq1 := gq1.S hs
    have gq2 := gq2.S hs
    have gq3 := gq3.S hs
    have gq5 := gq5.S hs
    have gq6 := gq6.S hs
    refine lv_iinc (v := 5) (lv' := [(2, .int (5 : Int32)), (0, .ref y), (1, .int d)]) hx hb dX10_act_51 hl (k := 0) rfl (by decide) (by decide) rfl (fun ls hl => ?_)
    refine lv_goto (tgt := 35) hx hb dX10_act_54 (by decide) ?_
    refine lv_iload_n hx hb dX10_act_35 rfl (lv_at hl 0 rfl) ?_
    refine lv_bipush (v := 13) hx hb dX10_act_36 (by decide) ?_
    refine hb_icmp_ge (zx := 5) (zy := 13) (tgt := 57) hx hb (by decide) (by decide) dX10_act_38 (by decide) (fun c_43 => absurd c_43 (by decide)) (fun c_43 => ?_)
    refine lv_aload_n hx hb dX10_act_41 rfl (lv_at hl 1 rfl) ?_
    refine hk_getr hx hb hts hC_10 hown hW gy td_10 12 (by decide) rfl kw_1155 ⟨rfl, rfl, rfl⟩ f_y_12 dX10_act_42 ?_
    refine lv_iload_n hx hb dX10_act_45 rfl (lv_at hl 0 rfl) ?_
    refine lv_iload_n hx hb dX10_act_46 rfl (lv_at hl 0 rfl) ?_
    refine hx_goi (hx_runS (As := [.int (5 : Int32)]) (rest := [.int (5 : Int32), .ref q4]) ⟨hx, hb, hml, hown, hts⟩ hW (c_X10_without_5 l dC dI dA L h_42 H.size ) (va_cwS 1 hts (hx_gS kw_1121 kw_1119 kw_1120 kw_103) rfl rfl rfl (by decide +kernel) ⟨Nat.le_of_ble_eq_true rfl, Nat.le_of_ble_eq_true rfl⟩) rfl hl.1 rfl (Nat.le_of_ble_eq_true rfl) dX10_act_47 ⟨Nat.le_of_ble_eq_true rfl, Nat.le_of_ble_eq_true rfl⟩) hW (fun r_46 L_44 h_45 H locs p_47 hW => ?_)
    obtain ⟨rfl, eu⟩ := p_47
    cases eu
    refine hk_iast hx hb hW gq4 td_54 rfl (by decide) rfl dX10_act_50 (fun H locs h_48 eh_48 hW hs => ?_)
    have f_y_1 := (hs.o gy trivial rfl).1.trans f_y_1
    have f_y_7 := (hs.o gy trivial rfl).1.trans f_y_7
    have f_y_12 := (hs.o gy trivial rfl).2.trans f_y_12
    have f_y_15 := (hs.o gy trivial rfl).2.trans f_y_15
    have f_y_4 := (hs.o gy trivial rfl).2.trans f_y_4
    have f_y_5 := (hs.o gy trivial rfl).2.trans f_y_5
    have f_y_2 := (hs.o gy trivial rfl).2.trans f_y_2
    have f_y_3 := (hs.o gy trivial rfl).2.trans f_y_3
    have f_8 := (hs.o gy trivial rfl).1.trans f_8
    have f_10 := (hs.o gy trivial rfl).1.trans f_10
    have f_12 := (hs.o gy trivial rfl).1.trans f_12
    have hM := hM.tr (hs.mono (by decide))
    have gy := gy.S hs
    have gq4 := gq4.S hs
    have gq1 := gq1.S hs
    have gq2 := gq2.S hs
    have gq3 := gq3.S hs
    have gq5 := gq5.S hs
    have gq6 := gq6.S hs
    refine lv_iinc (v := 6) (lv' := [(2, .int (6 : Int32)), (0, .ref y), (1, .int d)]) hx hb dX10_act_51 hl (k := 0) rfl (by decide) (by decide) rfl (fun ls hl => ?_)
    refine lv_goto (tgt := 35) hx hb dX10_act_54 (by decide) ?_
    refine lv_iload_n hx hb dX10_act_35 rfl (lv_at hl 0 rfl) ?_
    refine lv_bipush (v := 13) hx hb dX10_act_36 (by decide) ?_
    refine hb_icmp_ge (zx := 6) (zy := 13) (tgt := 57) hx hb (by decide) (by decide) dX10_act_38 (by decide) (fun c_49 => absurd c_49 (by decide)) (fun c_49 => ?_)
    refine lv_aload_n hx hb dX10_act_41 rfl (lv_at hl 1 rfl) ?_
    refine hk_getr hx hb hts hC_10 hown hW gy td_10 12 (by decide) rfl kw_1155 ⟨rfl, rfl, rfl⟩ f_y_12 dX10_act_42 ?_
    refine lv_iload_n hx hb dX10_act_45 rfl (lv_at hl 0 rfl) ?_
    refine lv_iload_n hx hb dX10_act_46 rfl (lv_at hl 0 rfl) ?_
    refine hx_goi (hx_runS (As := [.int (6 : Int32)]) (rest := [.int (6 : Int32), .ref q4]) ⟨hx, hb, hml, hown, hts⟩ hW (c_X10_without_6 l dC dI dA L h_48 H.size ) (va_cwS 1 hts (hx_gS kw_1121 kw_1119 kw_1120 kw_103) rfl rfl rfl (by decide +kernel) ⟨Nat.le_of_ble_eq_true rfl, Nat.le_of_ble_eq_true rfl⟩) rfl hl.1 rfl (Nat.le_of_ble_eq_true rfl) dX10_act_47 ⟨Nat.le_of_ble_eq_true rfl, Nat.le_of_ble_eq_true rfl⟩) hW (fun r_52 L_50 h_51 H locs p_53 hW => ?_)
    obtain ⟨rfl, eu⟩ := p_53
    cases eu
    refine hk_iast hx hb hW gq4 td_54 rfl (by decide) rfl dX10_act_50 (fun H locs h_54 eh_54 hW hs => ?_)
    have f_y_1 := (hs.o gy trivial rfl).1.trans f_y_1
    have f_y_7 := (hs.o gy trivial rfl).1.trans f_y_7
    have f_y_12 := (hs.o gy trivial rfl).2.trans f_y_12
    have f_y_15 := (hs.o gy trivial rfl).2.trans f_y_15
    have f_y_4 := (hs.o gy trivial rfl).2.trans f_y_4
    have f_y_5 := (hs.o gy trivial rfl).2.trans f_y_5
    have f_y_2 := (hs.o gy trivial rfl).2.trans f_y_2
    have f_y_3 := (hs.o gy trivial rfl).2.trans f_y_3
    have f_8 := (hs.o gy trivial rfl).1.trans f_8
    have f_10 := (hs.o gy trivial rfl).1.trans f_10
    have f_12 := (hs.o gy trivial rfl).1.trans f_12
    have hM := hM.tr (hs.mono (by decide))
    have gy := gy.S hs
    have gq4 := gq4.S hs
    have gq1 := gq1.S hs
    have gq2 := gq2.S hs
    have gq3 := gq3.S hs
    have gq5 := gq5.S hs
    have gq6 := gq6.S hs
    refine lv_iinc (v := 7) (lv' := [(2, .int (7 : Int32)), (0, .ref y), (1, .int d)]) hx hb dX10_act_51 hl (k := 0) rfl (by decide) (by decide) rfl (fun ls hl => ?_)
    refine lv_goto (tgt := 35) hx hb dX10_act_54 (by decide) ?_
    refine lv_iload_n hx hb dX10_act_35 rfl (lv_at hl 0 rfl) ?_
    refine lv_bipush (v := 13) hx hb dX10_act_36 (by decide) ?_
    refine hb_icmp_ge (zx := 7) (zy := 13) (tgt := 57) hx hb (by decide) (by decide) dX10_act_38 (by decide) (fun c_55 => absurd c_55 (by decide)) (fun c_55 => ?_)
    refine lv_aload_n hx hb dX10_act_41 rfl (lv_at hl 1 rfl) ?_
    refine hk_getr hx hb hts hC_10 hown hW gy td_10 12 (by decide) rfl kw_1155 ⟨rfl, rfl, rfl⟩ f_y_12 dX10_act_42 ?_
    refine lv_iload_n hx hb dX10_act_45 rfl (lv_at hl 0 rfl) ?_
    refine lv_iload_n hx hb dX10_act_46 rfl (lv_at hl 0 rfl) ?_
    refine hx_goi (hx_runS (As := [.int (7 : Int32)]) (rest := [.int (7 : Int32), .ref q4]) ⟨hx, hb, hml, hown, hts⟩ hW (c_X10_without_7 l dC dI dA L h_54 H.size ) (va_cwS 1 hts (hx_gS kw_1121 kw_1119 kw_1120 kw_103) rfl rfl rfl (by decide +kernel) ⟨Nat.le_of_ble_eq_true rfl, Nat.le_of_ble_eq_true rfl⟩) rfl hl.1 rfl (Nat.le_of_ble_eq_true rfl) dX10_act_47 ⟨Nat.le_of_ble_eq_true rfl, Nat.le_of_ble_eq_true rfl⟩) hW (fun r_58 L_56 h_57 H locs p_59 hW => ?_)
    obtain ⟨rfl, eu⟩ := p_59
    cases eu
    refine hk_iast hx hb hW gq4 td_54 rfl (by decide) rfl dX10_act_50 (fun H locs h_60 eh_60 hW hs => ?_)
    have f_y_1 := (hs.o gy trivial rfl).1.trans f_y_1
    have f_y_7 := (hs.o gy trivial rfl).1.trans f_y_7
    have f_y_12 := (hs.o gy trivial rfl).2.trans f_y_12
    have f_y_15 := (hs.o gy trivial rfl).2.trans f_y_15
    have f_y_4 := (hs.o gy trivial rfl).2.trans f_y_4
    have f_y_5 := (hs.o gy trivial rfl).2.trans f_y_5
    have f_y_2 := (hs.o gy trivial rfl).2.trans f_y_2
    have f_y_3 := (hs.o gy trivial rfl).2.trans f_y_3
    have f_8 := (hs.o gy trivial rfl).1.trans f_8
    have f_10 := (hs.o gy trivial rfl).1.trans f_10
    have f_12 := (hs.o gy trivial rfl).1.trans f_12
    have hM := hM.tr (hs.mono (by decide))
    have gy := gy.S hs
    have gq4 := gq4.S hs
    have gq1 := gq1.S hs
    have gq2 := gq2.S hs
    have gq3 := gq3.S hs
    have gq5 := gq5.S hs
    have gq6 := gq6.S hs
    refine lv_iinc (v := 8) (lv' := [(2, .int (8 : Int32)), (0, .ref y), (1, .int d)]) hx hb dX10_act_51 hl (k := 0) rfl (by decide) (by decide) rfl (fun ls hl => ?_)
    refine lv_goto (tgt := 35) hx hb dX10_act_54 (by decide) ?_
    refine lv_iload_n hx hb dX10_act_35 rfl (lv_at hl 0 rfl) ?_
    refine lv_bipush (v := 13) hx hb dX10_act_36 (by decide) ?_
    refine hb_icmp_ge (zx := 8) (zy := 13) (tgt := 57) hx hb (by decide) (by decide) dX10_act_38 (by decide) (fun c_61 => absurd c_61 (by decide)) (fun c_61 => ?_)
    refine lv_aload_n hx hb dX10_act_41 rfl (lv_at hl 1 rfl) ?_
    refine hk_getr hx hb hts hC_10 hown hW gy td_10 12 (by decide) rfl kw_1155 ⟨rfl, rfl, rfl⟩ f_y_12 dX10_act_42 ?_
    refine lv_iload_n hx hb dX10_act_45 rfl (lv_at hl 0 rfl) ?_
    refine lv_iload_n hx hb dX10_act_46 rfl (lv_at hl 0 rfl) ?_
    refine hx_goi (hx_runS (As := [.int (8 : Int32)]) (rest := [.int (8 : Int32), .ref q4]) ⟨hx, hb, hml, hown, hts⟩ hW (c_X10_without_8 l dC dI dA L h_60 H.size ) (va_cwS 1 hts (hx_gS kw_1121 kw_1119 kw_1120 kw_103) rfl rfl rfl (by decide +kernel) ⟨Nat.le_of_ble_eq_true rfl, Nat.le_of_ble_eq_true rfl⟩) rfl hl.1 rfl (Nat.le_of_ble_eq_true rfl) dX10_act_47 ⟨Nat.le_of_ble_eq_true rfl, Nat.le_of_ble_eq_true rfl⟩) hW (fun r_64 L_62 h_63 H locs p_65 hW => ?_)
    obtain ⟨rfl, eu⟩ := p_65
    cases eu
    refine hk_iast hx hb hW gq4 td_54 rfl (by decide) rfl dX10_act_50 (fun H locs h_66 eh_66 hW hs => ?_)
    have f_y_1 := (hs.o gy trivial rfl).1.trans f_y_1
    have f_y_7 := (hs.o gy trivial rfl).1.trans f_y_7
    have f_y_12 := (hs.o gy trivial rfl).2.trans f_y_12
    have f_y_15 := (hs.o gy trivial rfl).2.trans f_y_15
    have f_y_4 := (hs.o gy trivial rfl).2.trans f_y_4
    have f_y_5 := (hs.o gy trivial rfl).2.trans f_y_5
    have f_y_2 := (hs.o gy trivial rfl).2.trans f_y_2
    have f_y_3 := (hs.o gy trivial rfl).2.trans f_y_3
    have f_8 := (hs.o gy trivial rfl).1.trans f_8
    have f_10 := (hs.o gy trivial rfl).1.trans f_10
    have f_12 := (hs.o gy trivial rfl).1.trans f_12
    have hM := hM.tr (hs.mono (by decide))
    have gy := gy.S hs
    have gq4 := gq4.S hs
    have gq1 := gq1.S hs
    have gq2 := gq2.S hs
    have gq3 := gq3.S hs
    have gq5 := gq5.S hs
    have gq6 := gq6.S hs
    refine lv_iinc (v := 9) (lv' := [(2, .int (9 : Int32)), (0, .ref y), (1, .int d)]) hx hb dX10_act_51 hl (k := 0) rfl (by decide) (by decide) rfl (fun ls hl => ?_)
    refine lv_goto (tgt := 35) hx hb dX10_act_54 (by decide) ?_
    refine lv_iload_n hx hb dX10_act_35 rfl (lv_at hl 0 rfl) ?_
    refine lv_bipush (v := 13) hx hb dX10_act_36 (by decide) ?_
    refine hb_icmp_ge (zx := 9) (zy := 13) (tgt := 57) hx hb (by decide) (by decide) dX10_act_38 (by decide) (fun c_67 => absurd c_67 (by decide)) (fun c_67 => ?_)
    refine lv_aload_n hx hb dX10_act_41 rfl (lv_at hl 1 rfl) ?_
    refine hk_getr hx hb hts hC_10 hown hW gy td_10 12 (by decide) rfl kw_1155 ⟨rfl, rfl, rfl⟩ f_y_12 dX10_act_42 ?_
    refine lv_iload_n hx hb dX10_act_45 rfl (lv_at hl 0 rfl) ?_
    refine lv_iload_n hx hb dX10_act_46 rfl (lv_at hl 0 rfl) ?_
    refine hx_goi (hx_runS (As := [.int (9 : Int32)]) (rest := [.int (9 : Int32), .ref q4]) ⟨hx, hb, hml, hown, hts⟩ hW (c_X10_without_9 l dC dI dA L h_66 H.size ) (va_cwS 1 hts (hx_gS kw_1121 kw_1119 kw_1120 kw_103) rfl rfl rfl (by decide +kernel) ⟨Nat.le_of_ble_eq_true rfl, Nat.le_of_ble_eq_true rfl⟩) rfl hl.1 rfl (Nat.le_of_ble_eq_true rfl) dX10_act_47 ⟨Nat.le_of_ble_eq_true rfl, Nat.le_of_ble_eq_true rfl⟩) hW (fun r_70 L_68 h_69 H locs p_71 hW => ?_)
    obtain ⟨rfl, eu⟩ := p_71
    cases eu
    refine hk_iast hx hb hW gq4 td_54 rfl (by decide) rfl dX10_act_50 (fun H locs h_72 eh_72 hW hs => ?_)
    have f_y_1 := (hs.o gy trivial rfl).1.trans f_y_1
    have f_y_7 := (hs.o gy trivial rfl).1.trans f_y_7
    have f_y_12 := (hs.o gy trivial rfl).2.trans f_y_12
    have f_y_15 := (hs.o gy trivial rfl).2.trans f_y_15
    have f_y_4 := (hs.o gy trivial rfl).2.trans f_y_4
    have f_y_5 := (hs.o gy trivial rfl).2.trans f_y_5
    have f_y_2 := (hs.o gy trivial rfl).2.trans f_y_2
    have f_y_3 := (hs.o gy trivial rfl).2.trans f_y_3
    have f_8 := (hs.o gy trivial rfl).1.trans f_8
    have f_10 := (hs.o gy trivial rfl).1.trans f_10
    have f_12 := (hs.o gy trivial rfl).1.trans f_12
    have hM := hM.tr (hs.mono (by decide))
    have gy := gy.S hs
    have gq4 := gq4.S hs
    have gq1 := gq1.S hs
    have gq2 := gq2.S hs
    have gq3 := gq3.S hs
    have gq5 := gq5.S hs
    have gq6 := gq6.S hs
    refine lv_iinc (v := 10) (lv' := [(2, .int (10 : Int32)), (0, .ref y), (1, .int d)]) hx hb dX10_act_51 hl (k := 0) rfl (by decide) (by decide) rfl (fun ls hl => ?_)
    refine lv_goto (tgt := 35) hx hb dX10_act_54 (by decide) ?_
    refine lv_iload_n hx hb dX10_act_35 rfl (lv_at hl 0 rfl) ?_
    refine lv_bipush (v := 13) hx hb dX10_act_36 (by decide) ?_
    refine hb_icmp_ge (zx := 10) (zy := 13) (tgt := 57) hx hb (by decide) (by decide) dX10_act_38 (by decide) (fun c_73 => absurd c_73 (by decide)) (fun c_73 => ?_)
    refine lv_aload_n hx hb dX10_act_41 rfl (lv_at hl 1 rfl) ?_
    refine hk_getr hx hb hts hC_10 hown hW gy td_10 12 (by decide) rfl kw_1155 ⟨rfl, rfl, rfl⟩ f_y_12 dX10_act_42 ?_
    refine lv_iload_n hx hb dX10_act_45 rfl (lv_at hl 0 rfl) ?_
    refine lv_iload_n hx hb dX10_act_46 rfl (lv_at hl 0 rfl) ?_
    refine hx_goi (hx_runS (As := [.int (10 : Int32)]) (rest := [.int (10 : Int32), .ref q4]) ⟨hx, hb, hml, hown, hts⟩ hW (c_X10_without_10 l dC dI dA L h_72 H.size ) (va_cwS 1 hts (hx_gS kw_1121 kw_1119 kw_1120 kw_103) rfl rfl rfl (by decide +kernel) ⟨Nat.le_of_ble_eq_true rfl, Nat.le_of_ble_eq_true rfl⟩) rfl hl.1 rfl (Nat.le_of_ble_eq_true rfl) dX10_act_47 ⟨Nat.le_of_ble_eq_true rfl, Nat.le_of_ble_eq_true rfl⟩) hW (fun r_76 L_74 h_75 H locs p_77 hW => ?_)
    obtain ⟨rfl, eu⟩ := p_77
    cases eu
    refine hk_iast hx hb hW gq4 td_54 rfl (by decide) rfl dX10_act_50 (fun H locs h_78 eh_78 hW hs => ?_)
    have f_y_1 := (hs.o gy trivial rfl).1.trans f_y_1
    have f_y_7 := (hs.o gy trivial rfl).1.trans f_y_7
    have f_y_12 := (hs.o gy trivial rfl).2.trans f_y_12
    have f_y_15 := (hs.o gy trivial rfl).2.trans f_y_15
    have f_y_4 := (hs.o gy trivial rfl).2.trans f_y_4
    have f_y_5 := (hs.o gy trivial rfl).2.trans f_y_5
    have f_y_2 := (hs.o gy trivial rfl).2.trans f_y_2
    have f_y_3 := (hs.o gy trivial rfl).2.trans f_y_3
    have f_8 := (hs.o gy trivial rfl).1.trans f_8
    have f_10 := (hs.o gy trivial rfl).1.trans f_10
    have f_12 := (hs.o gy trivial rfl).1.trans f_12
    have hM := hM.tr (hs.mono (by decide))
    have gy := gy.S hs
    have gq4 := gq4.S hs
    have gq1 := gq1.S hs
    have gq2 := gq2.S hs
    have gq3 := gq3.S hs
    have gq5 := gq5.S hs
    have gq6 := gq6.S hs
    refine lv_iinc (v := 11) (lv' := [(2, .int (11 : Int32)), (0, .ref y), (1, .int d)]) hx hb dX10_act_51 hl (k := 0) rfl (by decide) (by decide) rfl (fun ls hl => ?_)
    refine lv_goto (tgt := 35) hx hb dX10_act_54 (by decide) ?_
    refine lv_iload_n hx hb dX10_act_35 rfl (lv_at hl 0 rfl) ?_
    refine lv_bipush (v := 13) hx hb dX10_act_36 (by decide) ?_
    refine hb_icmp_ge (zx := 11) (zy := 13) (tgt := 57) hx hb (by decide) (by decide) dX10_act_38 (by decide) (fun c_79 => absurd c_79 (by decide)) (fun c_79 => ?_)
    refine lv_aload_n hx hb dX10_act_41 rfl (lv_at hl 1 rfl) ?_
    refine hk_getr hx hb hts hC_10 hown hW gy td_10 12 (by decide) rfl kw_1155 ⟨rfl, rfl, rfl⟩ f_y_12 dX10_act_42 ?_
    refine lv_iload_n hx hb dX10_act_45 rfl (lv_at hl 0 rfl) ?_
    refine lv_iload_n hx hb dX10_act_46 rfl (lv_at hl 0 rfl) ?_
    refine hx_goi (hx_runS (As := [.int (11 : Int32)]) (rest := [.int (11 : Int32), .ref q4]) ⟨hx, hb, hml, hown, hts⟩ hW (c_X10_without_11 l dC dI dA L h_78 H.size ) (va_cwS 1 hts (hx_gS kw_1121 kw_1119 kw_1120 kw_103) rfl rfl rfl (by decide +kernel) ⟨Nat.le_of_ble_eq_true rfl, Nat.le_of_ble_eq_true rfl⟩) rfl hl.1 rfl (Nat.le_of_ble_eq_true rfl) dX10_act_47 ⟨Nat.le_of_ble_eq_true rfl, Nat.le_of_ble_eq_true rfl⟩) hW (fun r_82 L_80 h_81 H locs p_83 hW => ?_)
    obtain ⟨rfl, eu⟩ := p_83
    cases eu
    refine hk_iast hx hb hW gq4 td_54 rfl (by decide) rfl dX10_act_50 (fun H locs h_84 eh_84 hW hs => ?_)
    have f_y_1 := (hs.o gy trivial rfl).1.trans f_y_1
    have f_y_7 := (hs.o gy trivial rfl).1.trans f_y_7
    have f_y_12 := (hs.o gy trivial rfl).2.trans f_y_12
    have f_y_15 := (hs.o gy trivial rfl).2.trans f_y_15
    have f_y_4 := (hs.o gy trivial rfl).2.trans f_y_4
    have f_y_5 := (hs.o gy trivial rfl).2.trans f_y_5
    have f_y_2 := (hs.o gy trivial rfl).2.trans f_y_2
    have f_y_3 := (hs.o gy trivial rfl).2.trans f_y_3
    have f_8 := (hs.o gy trivial rfl).1.trans f_8
    have f_10 := (hs.o gy trivial rfl).1.trans f_10
    have f_12 := (hs.o gy trivial rfl).1.trans f_12
    have hM := hM.tr (hs.mono (by decide))
    have gy := gy.S hs
    have gq4 := gq4.S hs
    have gq1 := gq1.S hs
    have gq2 := gq2.S hs
    have gq3 := gq3.S hs
    have gq5 := gq5.S hs
    have gq6 := gq6.S hs
    refine lv_iinc (v := 12) (lv' := [(2, .int (12 : Int32)), (0, .ref y), (1, .int d)]) hx hb dX10_act_51 hl (k := 0) rfl (by decide) (by decide) rfl (fun ls hl => ?_)
    refine lv_goto (tgt := 35) hx hb dX10_act_54 (by decide) ?_
    refine lv_iload_n hx hb dX10_act_35 rfl (lv_at hl 0 rfl) ?_
    refine lv_bipush (v := 13) hx hb dX10_act_36 (by decide) ?_
    refine hb_icmp_ge (zx := 12) (zy := 13) (tgt := 57) hx hb (by decide) (by decide) dX10_act_38 (by decide) (fun c_85 => absurd c_85 (by decide)) (fun c_85 => ?_)
    refine lv_aload_n hx hb dX10_act_41 rfl (lv_at hl 1 rfl) ?_
    refine hk_getr hx hb hts hC_10 hown hW gy td_10 12 (by decide) rfl kw_1155 ⟨rfl, rfl, rfl⟩ f_y_12 dX10_act_42 ?_
    refine lv_iload_n hx hb dX10_act_45 rfl (lv_at hl 0 rfl) ?_
    refine lv_iload_n hx hb dX10_act_46 rfl (lv_at hl 0 rfl) ?_
    refine hx_goi (hx_runS (As := [.int (12 : Int32)]) (rest := [.int (12 : Int32), .ref q4]) ⟨hx, hb, hml, hown, hts⟩ hW (c_X10_without_12 l dC dI dA L h_84 H.size ) (va_cwS 1 hts (hx_gS kw_1121 kw_1119 kw_1120 kw_103) rfl rfl rfl (by decide +kernel) ⟨Nat.le_of_ble_eq_true rfl, Nat.le_of_ble_eq_true rfl⟩) rfl hl.1 rfl (Nat.le_of_ble_eq_true rfl) dX10_act_47 ⟨Nat.le_of_ble_eq_true rfl, Nat.le_of_ble_eq_true rfl⟩) hW (fun r_88 L_86 h_87 H locs p_89 hW => ?_)
    obtain ⟨rfl, eu⟩ := p_89
    cases eu
    refine hk_iast hx hb hW gq4 td_54 rfl (by decide) rfl dX10_act_50 (fun H locs h_90 eh_90 hW hs => ?_)
    have f_y_1 := (hs.o gy trivial rfl).1.trans f_y_1
    have f_y_7 := (hs.o gy trivial rfl).1.trans f_y_7
    have f_y_12 := (hs.o gy trivial rfl).2.trans f_y_12
    have f_y_15 := (hs.o gy trivial rfl).2.trans f_y_15
    have f_y_4 := (hs.o gy trivial rfl).2.trans f_y_4
    have f_y_5 := (hs.o gy trivial rfl).2.trans f_y_5
    have f_y_2 := (hs.o gy trivial rfl).2.trans f_y_2
    have f_y_3 := (hs.o gy trivial rfl).2.trans f_y_3
    have f_8 := (hs.o gy trivial rfl).1.trans f_8
    have f_10 := (hs.o gy trivial rfl).1.trans f_10
    have f_12 := (hs.o gy trivial rfl).1.trans f_12
    have hM := hM.tr (hs.mono (by decide))
    have gy := gy.S hs
    have gq4 := gq4.S hs
    have gq1 := gq1.S hs
    have gq2 := gq2.S hs
    have gq3 := gq3.S hs
    have gq5 := gq5.S hs
    have gq6 := gq6.S hs
    refine lv_iinc (v := 13) (lv' := [(2, .int (13 : Int32)), (0, .ref y), (1, .int d)]) hx hb dX10_act_51 hl (k := 0) rfl (by decide) (by decide) rfl (fun ls hl => ?_)
    refine lv_goto (tgt := 35) hx hb dX10_act_54 (by decide) ?_
    refine lv_iload_n hx hb dX10_act_35 rfl (lv_at hl 0 rfl) ?_
    refine lv_bipush (v := 13) hx hb dX10_act_36 (by decide) ?_
    refine hb_icmp_ge (zx := 13) (zy := 13) (tgt := 57) hx hb (by decide) (by decide) dX10_act_38 (by decide) (fun c_91 => ?_) (fun c_91 => absurd c_91 (by decide))
    refine lv_aload_n hx hb dX10_act_57 rfl (lv_at hl 1 rfl) ?_
    refine hx_gov (hx_runV (As := []) (rest := []) ⟨hx, hb, hml, hown, hts⟩ hW gy td_10 (T := TX10) (N := 98) rfl (c_X10_clears l dC dI dA L h_90 H.size y gy) (cwV 0 hts (hx_gV kw_1125 kw_1122 kw_1124 kw_48 kw_103) rfl rfl rfl (by decide +kernel) ⟨Nat.le_of_ble_eq_true rfl, Nat.le_of_ble_eq_true rfl⟩) rfl hl.1 rfl (Nat.le_of_ble_eq_true rfl) dX10_act_58 ⟨Nat.le_of_ble_eq_true rfl, Nat.le_of_ble_eq_true rfl⟩) hW (fun L_92 h_93 H locs p_95 hW => ?_)
    obtain ⟨hs, f_96⟩ := p_95
    have hs : hx_S P_tb [(10, 14), (10, 16), (10, 18)] L h_90 L_92 h_93 := hs
    have f_96 : h_93.2.1 y 14 = _ := f_96
    have f_y_1 := (hs.o gy trivial rfl).1.trans f_y_1
    have f_y_7 := (hs.o gy trivial rfl).1.trans f_y_7
    have f_y_12 := (hs.o gy trivial rfl).2.trans f_y_12
    have f_y_15 := (hs.o gy trivial rfl).2.trans f_y_15
    have f_y_4 := (hs.o gy trivial rfl).2.trans f_y_4
    have f_y_5 := (hs.o gy trivial rfl).2.trans f_y_5
    have f_y_2 := (hs.o gy trivial rfl).2.trans f_y_2
    have f_y_3 := (hs.o gy trivial rfl).2.trans f_y_3
    have f_8 := (hs.o gy trivial rfl).1.trans f_8
    have f_10 := (hs.o gy trivial rfl).1.trans f_10
    have f_12 := (hs.o gy trivial rfl).1.trans f_12
    have hM := hM.tr (hs.mono (by decide))
    have gy := gy.S hs
    have gq4 := gq4.S hs
    have gq1 := gq1.S hs
    have gq2 := gq2.S hs
    have gq3 := gq3.S hs
    have gq5 := gq5.S hs
    have gq6 := gq6.S hs
    refine lv_aload_n hx hb dX10_act_61 rfl (lv_at hl 1 rfl) ?_
    refine hx_gov (hx_runV (As := []) (rest := []) ⟨hx, hb, hml, hown, hts⟩ hW gy td_10 (T := TX10) (N := 98) rfl (c_X10_withoutProof l dC dI dA L_92 h_93 H.size y gy f_96 q1 gq1 f_y_15) (cwV 0 hts (hx_gV kw_1129 kw_1126 kw_1128 kw_49 kw_103) rfl rfl rfl (by decide +kernel) ⟨Nat.le_of_ble_eq_true rfl, Nat.le_of_ble_eq_true rfl⟩) rfl hl.1 rfl (Nat.le_of_ble_eq_true rfl) dX10_act_62 ⟨Nat.le_of_ble_eq_true rfl, Nat.le_of_ble_eq_true rfl⟩) hW (fun L_97 h_98 H locs p_100 hW => ?_)
    obtain ⟨hs, f_101⟩ := p_100
    have hs : hx_S P_tb [(10, 14), (55, 0)] L_92 h_93 L_97 h_98 := hs
    have f_101 : h_98.2.1 y 14 = _ := f_101
    have f_y_1 := (hs.o gy trivial rfl).1.trans f_y_1
    have f_y_7 := (hs.o gy trivial rfl).1.trans f_y_7
    have f_y_12 := (hs.o gy trivial rfl).2.trans f_y_12
    have f_y_15 := (hs.o gy trivial rfl).2.trans f_y_15
    have f_y_4 := (hs.o gy trivial rfl).2.trans f_y_4
    have f_y_5 := (hs.o gy trivial rfl).2.trans f_y_5
    have f_y_2 := (hs.o gy trivial rfl).2.trans f_y_2
    have f_y_3 := (hs.o gy trivial rfl).2.trans f_y_3
    have f_8 := (hs.o gy trivial rfl).1.trans f_8
    have f_10 := (hs.o gy trivial rfl).1.trans f_10
    have f_12 := (hs.o gy trivial rfl).1.trans f_12
    have hM := hM.tr (hs.mono (by decide))
    have gy := gy.S hs
    have gq4 := gq4.S hs
    have gq1 := gq1.S hs
    have gq2 := gq2.S hs
    have gq3 := gq3.S hs
    have gq5 := gq5.S hs
    have gq6 := gq6.S hs
    refine lv_iconst (v := 1) hx hb dX10_act_65 (by decide) ?_
    refine lv_istore_n (lv' := [(2, .int (1 : Int32)), (0, .ref y), (1, .int d)]) hx hb dX10_act_66 rfl hl (by decide) rfl (fun ls hl => ?_)
    refine lv_aload_n hx hb dX10_act_67 rfl (lv_at hl 1 rfl) ?_
    refine hx_goi (hx_runV (As := []) (rest := []) ⟨hx, hb, hml, hown, hts⟩ hW gy td_10 (T := TX10) (N := 98) rfl (c_X10_see l dC dI dA L_97 h_98 H.size y gy f_8 f_y_7) (cwV 0 hts (hx_gV kw_1468 kw_1465 kw_1467 kw_53 kw_103) rfl rfl rfl (by decide +kernel) ⟨Nat.le_of_ble_eq_true rfl, Nat.le_of_ble_eq_true rfl⟩) rfl hl.1 rfl (Nat.le_of_ble_eq_true rfl) dX10_act_68 ⟨Nat.le_of_ble_eq_true rfl, Nat.le_of_ble_eq_true rfl⟩) hW (fun r_104 L_102 h_103 H locs p_105 hW => ?_)
    obtain ⟨rfl, eu⟩ := p_105
    cases eu
    refine lv_iconst (v := -1) hx hb dX10_act_71 (by decide) ?_
    refine hb_icmp_eq (zx := (-1)) (zy := (-1)) (tgt := 79) hx hb (by decide) (by decide) dX10_act_72 (by decide) (fun c_106 => ?_) (fun c_106 => absurd c_106 (by decide))
    refine lv_iconst (v := 0) hx hb dX10_act_79 (by decide) ?_
    refine lv_istore_n (lv' := [(3, .int (0 : Int32)), (2, .int (1 : Int32)), (0, .ref y), (1, .int d)]) hx hb dX10_act_80 rfl hl (by decide) rfl (fun ls hl => ?_)
    refine lv_iload_n hx hb dX10_act_81 rfl (lv_at hl 1 rfl) ?_
    refine hb_if_eq (zx := 1) (tgt := 178) hx hb (by decide) dX10_act_82 (by decide) (fun c_107 => absurd c_107 (by decide)) (fun c_107 => ?_)
    refine lv_iload_n hx hb dX10_act_85 rfl (lv_at hl 0 rfl) ?_
    refine hb_if_eq (zx := 0) (tgt := 178) hx hb (by decide) dX10_act_86 (by decide) (fun c_108 => ?_) (fun c_108 => absurd c_108 (by decide))
    refine lv_aload_n hx hb dX10_act_178 rfl (lv_at hl 2 rfl) ?_
    refine lv_iconst (v := 0) hx hb dX10_act_179 (by decide) ?_
    refine hk_puti hx hb hts hC_10 hown hW gy td_10 7 (by decide) rfl kw_1150 ⟨rfl, rfl, rfl⟩ rfl (x := (0 : Int32)) rfl rfl rfl dX10_act_180 (fun H locs h_109 eh_109 hW hs => ?_)
    have f_y_1 := (hs.o gy trivial rfl).1.trans f_y_1
    have f_y_12 := (hs.o gy trivial rfl).2.trans f_y_12
    have f_y_15 := (hs.o gy trivial rfl).2.trans f_y_15
    have f_y_4 := (hs.o gy trivial rfl).2.trans f_y_4
    have f_y_5 := (hs.o gy trivial rfl).2.trans f_y_5
    have f_y_2 := (hs.o gy trivial rfl).2.trans f_y_2
    have f_y_3 := (hs.o gy trivial rfl).2.trans f_y_3
    have f_8 := (hs.o gy trivial rfl).1.trans f_8
    have f_10 := (hs.o gy trivial rfl).1.trans f_10
    have f_12 := (hs.o gy trivial rfl).1.trans f_12
    have f_101 := (hs.o gy trivial rfl).1.trans f_101
    have hM := hM.tr (hs.mono (by decide))
    have gy := gy.S hs
    have gq4 := gq4.S hs
    have gq1 := gq1.S hs
    have gq2 := gq2.S hs
    have gq3 := gq3.S hs
    have gq5 := gq5.S hs
    have gq6 := gq6.S hs
    have f_110 : h_109.2.1 y 7 = (0 : Int32) := by rw [eh_109]; exact hx_pi_at _ _ _ _
    refine lv_iload_n hx hb dX10_act_183 rfl (lv_at hl 1 rfl) ?_
    refine hb_if_ne (zx := 1) (tgt := 195) hx hb (by decide) dX10_act_184 (by decide) (fun c_111 => ?_) (fun c_111 => absurd c_111 (by decide))
    refine lv_aload_n hx hb dX10_act_195 rfl (lv_at hl 2 rfl) ?_
    refine lv_dup hx hb dX10_act_196 rfl ?_
    refine hk_geti hx hb hts hC_10 hown hW gy td_10 1 (by decide) rfl kw_1144 ⟨rfl, rfl, rfl⟩ f_y_1 dX10_act_197 ?_
    refine lv_iconst (v := 1) hx hb dX10_act_200 (by decide) ?_
    refine lv_iadd hx hb dX10_act_201 ?_
    refine lv_topi (fun x_112 ex_112 => ?_)
    obtain rfl : x_112 = (1 : Int32) := ex_112.trans (by decide)
    refine hk_puti hx hb hts hC_10 hown hW gy td_10 1 (by decide) rfl kw_1144 ⟨rfl, rfl, rfl⟩ rfl (x := (1 : Int32)) rfl rfl rfl dX10_act_202 (fun H locs h_113 eh_113 hW hs => ?_)
    have f_y_12 := (hs.o gy trivial rfl).2.trans f_y_12
    have f_y_15 := (hs.o gy trivial rfl).2.trans f_y_15
    have f_y_4 := (hs.o gy trivial rfl).2.trans f_y_4
    have f_y_5 := (hs.o gy trivial rfl).2.trans f_y_5
    have f_y_2 := (hs.o gy trivial rfl).2.trans f_y_2
    have f_y_3 := (hs.o gy trivial rfl).2.trans f_y_3
    have f_8 := (hs.o gy trivial rfl).1.trans f_8
    have f_10 := (hs.o gy trivial rfl).1.trans f_10
    have f_12 := (hs.o gy trivial rfl).1.trans f_12
    have f_101 := (hs.o gy trivial rfl).1.trans f_101
    have f_110 := (hs.o gy trivial rfl).1.trans f_110
    have hM := hM.tr (hs.mono (by decide))
    have gy := gy.S hs
    have gq4 := gq4.S hs
    have gq1 := gq1.S hs
    have gq2 := gq2.S hs
    have gq3 := gq3.S hs
    have gq5 := gq5.S hs
    have gq6 := gq6.S hs
    have f_114 : h_113.2.1 y 1 = (1 : Int32) := by rw [eh_113]; exact hx_pi_at _ _ _ _
    refine lv_aload_n hx hb dX10_act_205 rfl (lv_at hl 2 rfl) ?_
    refine hk_getr hx hb hts hC_10 hown hW gy td_10 2 (by decide) rfl kw_1145 ⟨rfl, rfl, rfl⟩ f_y_2 dX10_act_206 ?_
    refine lv_aload_n hx hb dX10_act_209 rfl (lv_at hl 2 rfl) ?_
    refine hk_geti hx hb hts hC_10 hown hW gy td_10 1 (by decide) rfl kw_1144 ⟨rfl, rfl, rfl⟩ f_114 dX10_act_210 ?_
    refine lv_iload_n hx hb dX10_act_213 rfl (lv_at hl 3 rfl) ?_
    refine hk_iast hx hb hW gq5 td_49 rfl (by decide) rfl dX10_act_214 (fun H locs h_115 eh_115 hW hs => ?_)
    have f_y_12 := (hs.o gy trivial rfl).2.trans f_y_12
    have f_y_15 := (hs.o gy trivial rfl).2.trans f_y_15
    have f_y_4 := (hs.o gy trivial rfl).2.trans f_y_4
    have f_y_5 := (hs.o gy trivial rfl).2.trans f_y_5
    have f_y_2 := (hs.o gy trivial rfl).2.trans f_y_2
    have f_y_3 := (hs.o gy trivial rfl).2.trans f_y_3
    have f_8 := (hs.o gy trivial rfl).1.trans f_8
    have f_10 := (hs.o gy trivial rfl).1.trans f_10
    have f_12 := (hs.o gy trivial rfl).1.trans f_12
    have f_101 := (hs.o gy trivial rfl).1.trans f_101
    have f_110 := (hs.o gy trivial rfl).1.trans f_110
    have f_114 := (hs.o gy trivial rfl).1.trans f_114
    have hM := hM.tr (hs.mono (by decide))
    have gy := gy.S hs
    have gq4 := gq4.S hs
    have gq1 := gq1.S hs
    have gq2 := gq2.S hs
    have gq3 := gq3.S hs
    have gq5 := gq5.S hs
    have gq6 := gq6.S hs
    refine lv_iconst (v := 0) hx hb dX10_act_215 (by decide) ?_
    refine lv_istore (lv' := [(4, .int (0 : Int32)), (3, .int (0 : Int32)), (2, .int (1 : Int32)), (0, .ref y), (1, .int d)]) hx hb dX10_act_216 hl (by decide) rfl (fun ls hl => ?_)
    refine lv_iload hx hb dX10_act_218 (lv_at hl 0 rfl) ?_
    refine lv_bipush (v := 13) hx hb dX10_act_220 (by decide) ?_
    refine hb_icmp_ge (zx := 0) (zy := 13) (tgt := 253) hx hb (by decide) (by decide) dX10_act_222 (by decide) (fun c_116 => absurd c_116 (by decide)) (fun c_116 => ?_)
    refine lv_aload_n hx hb dX10_act_225 rfl (lv_at hl 3 rfl) ?_
    refine hk_getr hx hb hts hC_10 hown hW gy td_10 3 (by decide) rfl kw_1146 ⟨rfl, rfl, rfl⟩ f_y_3 dX10_act_226 ?_
    refine lv_bipush (v := 13) hx hb dX10_act_229 (by decide) ?_
    refine lv_aload_n hx hb dX10_act_231 rfl (lv_at hl 3 rfl) ?_
    refine hk_geti hx hb hts hC_10 hown hW gy td_10 1 (by decide) rfl kw_1144 ⟨rfl, rfl, rfl⟩ f_114 dX10_act_232 ?_
    refine lv_imul hx hb dX10_act_235 ?_
    refine lv_topi (fun x_117 ex_117 => ?_)
    obtain rfl : x_117 = (13 : Int32) := ex_117.trans (by decide)
    refine lv_iload hx hb dX10_act_236 (lv_at hl 0 rfl) ?_
    refine lv_iadd hx hb dX10_act_238 ?_
    refine lv_topi (fun x_118 ex_118 => ?_)
    obtain rfl : x_118 = (13 : Int32) := ex_118.trans (by decide)
    refine lv_aload_n hx hb dX10_act_239 rfl (lv_at hl 3 rfl) ?_
    refine hk_getr hx hb hts hC_10 hown hW gy td_10 12 (by decide) rfl kw_1155 ⟨rfl, rfl, rfl⟩ f_y_12 dX10_act_240 ?_
    refine lv_iload hx hb dX10_act_243 (lv_at hl 0 rfl) ?_
    refine hk_iald hx hb hW gq4 td_54 rfl (by decide) rfl dX10_act_245 ?_
    refine hk_iast hx hb hW gq6 td_50 rfl (by decide) rfl dX10_act_246 (fun H locs h_119 eh_119 hW hs => ?_)
    have f_y_12 := (hs.o gy trivial rfl).2.trans f_y_12
    have f_y_15 := (hs.o gy trivial rfl).2.trans f_y_15
    have f_y_4 := (hs.o gy trivial rfl).2.trans f_y_4
    have f_y_5 := (hs.o gy trivial rfl).2.trans f_y_5
    have f_y_2 := (hs.o gy trivial rfl).2.trans f_y_2
    have f_y_3 := (hs.o gy trivial rfl).2.trans f_y_3
    have f_8 := (hs.o gy trivial rfl).1.trans f_8
    have f_10 := (hs.o gy trivial rfl).1.trans f_10
    have f_12 := (hs.o gy trivial rfl).1.trans f_12
    have f_101 := (hs.o gy trivial rfl).1.trans f_101
    have f_110 := (hs.o gy trivial rfl).1.trans f_110
    have f_114 := (hs.o gy trivial rfl).1.trans f_114
    have hM := hM.tr (hs.mono (by decide))
    have gy := gy.S hs
    have gq4 := gq4.S hs
    have gq1 := gq1.S hs
    have gq2 := gq2.S hs
    have gq3 := gq3.S hs
    have gq5 := gq5.S hs
    have gq6 := gq6.S hs
    refine lv_iinc (v := 1) (lv' := [(4, .int (1 : Int32)), (3, .int (0 : Int32)), (2, .int (1 : Int32)), (0, .ref y), (1, .int d)]) hx hb dX10_act_247 hl (k := 0) rfl (by decide) (by decide) rfl (fun ls hl => ?_)
    refine lv_goto (tgt := 218) hx hb dX10_act_250 (by decide) ?_
    refine lv_iload hx hb dX10_act_218 (lv_at hl 0 rfl) ?_
    refine lv_bipush (v := 13) hx hb dX10_act_220 (by decide) ?_
    refine hb_icmp_ge (zx := 1) (zy := 13) (tgt := 253) hx hb (by decide) (by decide) dX10_act_222 (by decide) (fun c_120 => absurd c_120 (by decide)) (fun c_120 => ?_)
    refine lv_aload_n hx hb dX10_act_225 rfl (lv_at hl 3 rfl) ?_
    refine hk_getr hx hb hts hC_10 hown hW gy td_10 3 (by decide) rfl kw_1146 ⟨rfl, rfl, rfl⟩ f_y_3 dX10_act_226 ?_
    refine lv_bipush (v := 13) hx hb dX10_act_229 (by decide) ?_
    refine lv_aload_n hx hb dX10_act_231 rfl (lv_at hl 3 rfl) ?_
    refine hk_geti hx hb hts hC_10 hown hW gy td_10 1 (by decide) rfl kw_1144 ⟨rfl, rfl, rfl⟩ f_114 dX10_act_232 ?_
    refine lv_imul hx hb dX10_act_235 ?_
    refine lv_topi (fun x_121 ex_121 => ?_)
    obtain rfl : x_121 = (13 : Int32) := ex_121.trans (by decide)
    refine lv_iload hx hb dX10_act_236 (lv_at hl 0 rfl) ?_
    refine lv_iadd hx hb dX10_act_238 ?_
    refine lv_topi (fun x_122 ex_122 => ?_)
    obtain rfl : x_122 = (14 : Int32) := ex_122.trans (by decide)
    refine lv_aload_n hx hb dX10_act_239 rfl (lv_at hl 3 rfl) ?_
    refine hk_getr hx hb hts hC_10 hown hW gy td_10 12 (by decide) rfl kw_1155 ⟨rfl, rfl, rfl⟩ f_y_12 dX10_act_240 ?_
    refine lv_iload hx hb dX10_act_243 (lv_at hl 0 rfl) ?_
    refine hk_iald hx hb hW gq4 td_54 rfl (by decide) rfl dX10_act_245 ?_
    refine hk_iast hx hb hW gq6 td_50 rfl (by decide) rfl dX10_act_246 (fun H locs h_123 eh_123 hW hs => ?_)
    have f_y_12 := (hs.o gy trivial rfl).2.trans f_y_12
    have f_y_15 := (hs.o gy trivial rfl).2.trans f_y_15
    have f_y_4 := (hs.o gy trivial rfl).2.trans f_y_4
    have f_y_5 := (hs.o gy trivial rfl).2.trans f_y_5
    have f_y_2 := (hs.o gy trivial rfl).2.trans f_y_2
    have f_y_3 := (hs.o gy trivial rfl).2.trans f_y_3
    have f_8 := (hs.o gy trivial rfl).1.trans f_8
    have f_10 := (hs.o gy trivial rfl).1.trans f_10
    have f_12 := (hs.o gy trivial rfl).1.trans f_12
    have f_101 := (hs.o gy trivial rfl).1.trans f_101
    have f_110 := (hs.o gy trivial rfl).1.trans f_110
    have f_114 := (hs.o gy trivial rfl).1.trans f_114
    have hM := hM.tr (hs.mono (by decide))
    have gy := gy.S hs
    have gq4 := gq4.S hs
    have gq1 := gq1.S hs
    have gq2 := gq2.S hs
    have gq3 := gq3.S hs
    have gq5 := gq5.S hs
    have gq6 := gq6.S hs
    refine lv_iinc (v := 2) (lv' := [(4, .int (2 : Int32)), (3, .int (0 : Int32)), (2, .int (1 : Int32)), (0, .ref y), (1, .int d)]) hx hb dX10_act_247 hl (k := 0) rfl (by decide) (by decide) rfl (fun ls hl => ?_)
    refine lv_goto (tgt := 218) hx hb dX10_act_250 (by decide) ?_
    refine lv_iload hx hb dX10_act_218 (lv_at hl 0 rfl) ?_
    refine lv_bipush (v := 13) hx hb dX10_act_220 (by decide) ?_
    refine hb_icmp_ge (zx := 2) (zy := 13) (tgt := 253) hx hb (by decide) (by decide) dX10_act_222 (by decide) (fun c_124 => absurd c_124 (by decide)) (fun c_124 => ?_)
    refine lv_aload_n hx hb dX10_act_225 rfl (lv_at hl 3 rfl) ?_
    refine hk_getr hx hb hts hC_10 hown hW gy td_10 3 (by decide) rfl kw_1146 ⟨rfl, rfl, rfl⟩ f_y_3 dX10_act_226 ?_
    refine lv_bipush (v := 13) hx hb dX10_act_229 (by decide) ?_
    refine lv_aload_n hx hb dX10_act_231 rfl (lv_at hl 3 rfl) ?_
    refine hk_geti hx hb hts hC_10 hown hW gy td_10 1 (by decide) rfl kw_1144 ⟨rfl, rfl, rfl⟩ f_114 dX10_act_232 ?_
    refine lv_imul hx hb dX10_act_235 ?_
    refine lv_topi (fun x_125 ex_125 => ?_)
    obtain rfl : x_125 = (13 : Int32) := ex_125.trans (by decide)
    refine lv_iload hx hb dX10_act_236 (lv_at hl 0 rfl) ?_
    refine lv_iadd hx hb dX10_act_238 ?_
    refine lv_topi (fun x_126 ex_126 => ?_)
    obtain rfl : x_126 = (15 : Int32) := ex_126.trans (by decide)
    refine lv_aload_n hx hb dX10_act_239 rfl (lv_at hl 3 rfl) ?_
    refine hk_getr hx hb hts hC_10 hown hW gy td_10 12 (by decide) rfl kw_1155 ⟨rfl, rfl, rfl⟩ f_y_12 dX10_act_240 ?_
    refine lv_iload hx hb dX10_act_243 (lv_at hl 0 rfl) ?_
    refine hk_iald hx hb hW gq4 td_54 rfl (by decide) rfl dX10_act_245 ?_
    refine hk_iast hx hb hW gq6 td_50 rfl (by decide) rfl dX10_act_246 (fun H locs h_127 eh_127 hW hs => ?_)
    have f_y_12 := (hs.o gy trivial rfl).2.trans f_y_12
    have f_y_15 := (hs.o gy trivial rfl).2.trans f_y_15
    have f_y_4 := (hs.o gy trivial rfl).2.trans f_y_4
    have f_y_5 := (hs.o gy trivial rfl).2.trans f_y_5
    have f_y_2 := (hs.o gy trivial rfl).2.trans f_y_2
    have f_y_3 := (hs.o gy trivial rfl).2.trans f_y_3
    have f_8 := (hs.o gy trivial rfl).1.trans f_8
    have f_10 := (hs.o gy trivial rfl).1.trans f_10
    have f_12 := (hs.o gy trivial rfl).1.trans f_12
    have f_101 := (hs.o gy trivial rfl).1.trans f_101
    have f_110 := (hs.o gy trivial rfl).1.trans f_110
    have f_114 := (hs.o gy trivial rfl).1.trans f_114
    have hM := hM.tr (hs.mono (by decide))
    have gy := gy.S hs
    have gq4 := gq4.S hs
    have gq1 := gq1.S hs
    have gq2 := gq2.S hs
    have gq3 := gq3.S hs
    have gq5 := gq5.S hs
    have gq6 := gq6.S hs
    refine lv_iinc (v := 3) (lv' := [(4, .int (3 : Int32)), (3, .int (0 : Int32)), (2, .int (1 : Int32)), (0, .ref y), (1, .int d)]) hx hb dX10_act_247 hl (k := 0) rfl (by decide) (by decide) rfl (fun ls hl => ?_)
    refine lv_goto (tgt := 218) hx hb dX10_act_250 (by decide) ?_
    refine lv_iload hx hb dX10_act_218 (lv_at hl 0 rfl) ?_
    refine lv_bipush (v := 13) hx hb dX10_act_220 (by decide) ?_
    refine hb_icmp_ge (zx := 3) (zy := 13) (tgt := 253) hx hb (by decide) (by decide) dX10_act_222 (by decide) (fun c_128 => absurd c_128 (by decide)) (fun c_128 => ?_)
    refine lv_aload_n hx hb dX10_act_225 rfl (lv_at hl 3 rfl) ?_
    refine hk_getr hx hb hts hC_10 hown hW gy td_10 3 (by decide) rfl kw_1146 ⟨rfl, rfl, rfl⟩ f_y_3 dX10_act_226 ?_
    refine lv_bipush (v := 13) hx hb dX10_act_229 (by decide) ?_
    refine lv_aload_n hx hb dX10_act_231 rfl (lv_at hl 3 rfl) ?_
    refine hk_geti hx hb hts hC_10 hown hW gy td_10 1 (by decide) rfl kw_1144 ⟨rfl, rfl, rfl⟩ f_114 dX10_act_232 ?_
    refine lv_imul hx hb dX10_act_235 ?_
    refine lv_topi (fun x_129 ex_129 => ?_)
    obtain rfl : x_129 = (13 : Int32) := ex_129.trans (by decide)
    refine lv_iload hx hb dX10_act_236 (lv_at hl 0 rfl) ?_
    refine lv_iadd hx hb dX10_act_238 ?_
    refine lv_topi (fun x_130 ex_130 => ?_)
    obtain rfl : x_130 = (16 : Int32) := ex_130.trans (by decide)
    refine lv_aload_n hx hb dX10_act_239 rfl (lv_at hl 3 rfl) ?_
    refine hk_getr hx hb hts hC_10 hown hW gy td_10 12 (by decide) rfl kw_1155 ⟨rfl, rfl, rfl⟩ f_y_12 dX10_act_240 ?_
    refine lv_iload hx hb dX10_act_243 (lv_at hl 0 rfl) ?_
    refine hk_iald hx hb hW gq4 td_54 rfl (by decide) rfl dX10_act_245 ?_
    refine hk_iast hx hb hW gq6 td_50 rfl (by decide) rfl dX10_act_246 (fun H locs h_131 eh_131 hW hs => ?_)
    have f_y_12 := (hs.o gy trivial rfl).2.trans f_y_12
    have f_y_15 := (hs.o gy trivial rfl).2.trans f_y_15
    have f_y_4 := (hs.o gy trivial rfl).2.trans f_y_4
    have f_y_5 := (hs.o gy trivial rfl).2.trans f_y_5
    have f_y_2 := (hs.o gy trivial rfl).2.trans f_y_2
    have f_y_3 := (hs.o gy trivial rfl).2.trans f_y_3
    have f_8 := (hs.o gy trivial rfl).1.trans f_8
    have f_10 := (hs.o gy trivial rfl).1.trans f_10
    have f_12 := (hs.o gy trivial rfl).1.trans f_12
    have f_101 := (hs.o gy trivial rfl).1.trans f_101
    have f_110 := (hs.o gy trivial rfl).1.trans f_110
    have f_114 := (hs.o gy trivial rfl).1.trans f_114
    have hM := hM.tr (hs.mono (by decide))
    have gy := gy.S hs
    have gq4 := gq4.S hs
    have gq1 := gq1.S hs
    have gq2 := gq2.S hs
    have gq3 := gq3.S hs
    have gq5 := gq5.S hs
    have gq6 := gq6.S hs
    refine lv_iinc (v := 4) (lv' := [(4, .int (4 : Int32)), (3, .int (0 : Int32)), (2, .int (1 : Int32)), (0, .ref y), (1, .int d)]) hx hb dX10_act_247 hl (k := 0) rfl (by decide) (by decide) rfl (fun ls hl => ?_)
    refine lv_goto (tgt := 218) hx hb dX10_act_250 (by decide) ?_
    refine lv_iload hx hb dX10_act_218 (lv_at hl 0 rfl) ?_
    refine lv_bipush (v := 13) hx hb dX10_act_220 (by decide) ?_
    refine hb_icmp_ge (zx := 4) (zy := 13) (tgt := 253) hx hb (by decide) (by decide) dX10_act_222 (by decide) (fun c_132 => absurd c_132 (by decide)) (fun c_132 => ?_)
    refine lv_aload_n hx hb dX10_act_225 rfl (lv_at hl 3 rfl) ?_
    refine hk_getr hx hb hts hC_10 hown hW gy td_10 3 (by decide) rfl kw_1146 ⟨rfl, rfl, rfl⟩ f_y_3 dX10_act_226 ?_
    refine lv_bipush (v := 13) hx hb dX10_act_229 (by decide) ?_
    refine lv_aload_n hx hb dX10_act_231 rfl (lv_at hl 3 rfl) ?_
    refine hk_geti hx hb hts hC_10 hown hW gy td_10 1 (by decide) rfl kw_1144 ⟨rfl, rfl, rfl⟩ f_114 dX10_act_232 ?_
    refine lv_imul hx hb dX10_act_235 ?_
    refine lv_topi (fun x_133 ex_133 => ?_)
    obtain rfl : x_133 = (13 : Int32) := ex_133.trans (by decide)
    refine lv_iload hx hb dX10_act_236 (lv_at hl 0 rfl) ?_
    refine lv_iadd hx hb dX10_act_238 ?_
    refine lv_topi (fun x_134 ex_134 => ?_)
    obtain rfl : x_134 = (17 : Int32) := ex_134.trans (by decide)
    refine lv_aload_n hx hb dX10_act_239 rfl (lv_at hl 3 rfl) ?_
    refine hk_getr hx hb hts hC_10 hown hW gy td_10 12 (by decide) rfl kw_1155 ⟨rfl, rfl, rfl⟩ f_y_12 dX10_act_240 ?_
    refine lv_iload hx hb dX10_act_243 (lv_at hl 0 rfl) ?_
    refine hk_iald hx hb hW gq4 td_54 rfl (by decide) rfl dX10_act_245 ?_
    refine hk_iast hx hb hW gq6 td_50 rfl (by decide) rfl dX10_act_246 (fun H locs h_135 eh_135 hW hs => ?_)
    have f_y_12 := (hs.o gy trivial rfl).2.trans f_y_12
    have f_y_15 := (hs.o gy trivial rfl).2.trans f_y_15
    have f_y_4 := (hs.o gy trivial rfl).2.trans f_y_4
    have f_y_5 := (hs.o gy trivial rfl).2.trans f_y_5
    have f_y_2 := (hs.o gy trivial rfl).2.trans f_y_2
    have f_y_3 := (hs.o gy trivial rfl).2.trans f_y_3
    have f_8 := (hs.o gy trivial rfl).1.trans f_8
    have f_10 := (hs.o gy trivial rfl).1.trans f_10
    have f_12 := (hs.o gy trivial rfl).1.trans f_12
    have f_101 := (hs.o gy trivial rfl).1.trans f_101
    have f_110 := (hs.o gy trivial rfl).1.trans f_110
    have f_114 := (hs.o gy trivial rfl).1.trans f_114
    have hM := hM.tr (hs.mono (by decide))
    have gy := gy.S hs
    have gq4 := gq4.S hs
    have gq1 := gq1.S hs
    have gq2 := gq2.S hs
    have gq3 := gq3.S hs
    have gq5 := gq5.S hs
    have gq6 := gq6.S hs
    refine lv_iinc (v := 5) (lv' := [(4, .int (5 : Int32)), (3, .int (0 : Int32)), (2, .int (1 : Int32)), (0, .ref y), (1, .int d)]) hx hb dX10_act_247 hl (k := 0) rfl (by decide) (by decide) rfl (fun ls hl => ?_)
    refine lv_goto (tgt := 218) hx hb dX10_act_250 (by decide) ?_
    refine lv_iload hx hb dX10_act_218 (lv_at hl 0 rfl) ?_
    refine lv_bipush (v := 13) hx hb dX10_act_220 (by decide) ?_
    refine hb_icmp_ge (zx := 5) (zy := 13) (tgt := 253) hx hb (by decide) (by decide) dX10_act_222 (by decide) (fun c_136 => absurd c_136 (by decide)) (fun c_136 => ?_)
    refine lv_aload_n hx hb dX10_act_225 rfl (lv_at hl 3 rfl) ?_
    refine hk_getr hx hb hts hC_10 hown hW gy td_10 3 (by decide) rfl kw_1146 ⟨rfl, rfl, rfl⟩ f_y_3 dX10_act_226 ?_
    refine lv_bipush (v := 13) hx hb dX10_act_229 (by decide) ?_
    refine lv_aload_n hx hb dX10_act_231 rfl (lv_at hl 3 rfl) ?_
    refine hk_geti hx hb hts hC_10 hown hW gy td_10 1 (by decide) rfl kw_1144 ⟨rfl, rfl, rfl⟩ f_114 dX10_act_232 ?_
    refine lv_imul hx hb dX10_act_235 ?_
    refine lv_topi (fun x_137 ex_137 => ?_)
    obtain rfl : x_137 = (13 : Int32) := ex_137.trans (by decide)
    refine lv_iload hx hb dX10_act_236 (lv_at hl 0 rfl) ?_
    refine lv_iadd hx hb dX10_act_238 ?_
    refine lv_topi (fun x_138 ex_138 => ?_)
    obtain rfl : x_138 = (18 : Int32) := ex_138.trans (by decide)
    refine lv_aload_n hx hb dX10_act_239 rfl (lv_at hl 3 rfl) ?_
    refine hk_getr hx hb hts hC_10 hown hW gy td_10 12 (by decide) rfl kw_1155 ⟨rfl, rfl, rfl⟩ f_y_12 dX10_act_240 ?_
    refine lv_iload hx hb dX10_act_243 (lv_at hl 0 rfl) ?_
    refine hk_iald hx hb hW gq4 td_54 rfl (by decide) rfl dX10_act_245 ?_
    refine hk_iast hx hb hW gq6 td_50 rfl (by decide) rfl dX10_act_246 (fun H locs h_139 eh_139 hW hs => ?_)
    have f_y_12 := (hs.o gy trivial rfl).2.trans f_y_12
    have f_y_15 := (hs.o gy trivial rfl).2.trans f_y_15
    have f_y_4 := (hs.o gy trivial rfl).2.trans f_y_4
    have f_y_5 := (hs.o gy trivial rfl).2.trans f_y_5
    have f_y_2 := (hs.o gy trivial rfl).2.trans f_y_2
    have f_y_3 := (hs.o gy trivial rfl).2.trans f_y_3
    have f_8 := (hs.o gy trivial rfl).1.trans f_8
    have f_10 := (hs.o gy trivial rfl).1.trans f_10
    have f_12 := (hs.o gy trivial rfl).1.trans f_12
    have f_101 := (hs.o gy trivial rfl).1.trans f_101
    have f_110 := (hs.o gy trivial rfl).1.trans f_110
    have f_114 := (hs.o gy trivial rfl).1.trans f_114
    have hM := hM.tr (hs.mono (by decide))
    have gy := gy.S hs
    have gq4 := gq4.S hs
    have gq1 := gq1.S hs
    have gq2 := gq2.S hs
    have gq3 := gq3.S hs
    have gq5 := gq5.S hs
    have gq6 := gq6.S hs
    refine lv_iinc (v := 6) (lv' := [(4, .int (6 : Int32)), (3, .int (0 : Int32)), (2, .int (1 : Int32)), (0, .ref y), (1, .int d)]) hx hb dX10_act_247 hl (k := 0) rfl (by decide) (by decide) rfl (fun ls hl => ?_)
    refine lv_goto (tgt := 218) hx hb dX10_act_250 (by decide) ?_
    refine lv_iload hx hb dX10_act_218 (lv_at hl 0 rfl) ?_
    refine lv_bipush (v := 13) hx hb dX10_act_220 (by decide) ?_
    refine hb_icmp_ge (zx := 6) (zy := 13) (tgt := 253) hx hb (by decide) (by decide) dX10_act_222 (by decide) (fun c_140 => absurd c_140 (by decide)) (fun c_140 => ?_)
    refine lv_aload_n hx hb dX10_act_225 rfl (lv_at hl 3 rfl) ?_
    refine hk_getr hx hb hts hC_10 hown hW gy td_10 3 (by decide) rfl kw_1146 ⟨rfl, rfl, rfl⟩ f_y_3 dX10_act_226 ?_
    refine lv_bipush (v := 13) hx hb dX10_act_229 (by decide) ?_
    refine lv_aload_n hx hb dX10_act_231 rfl (lv_at hl 3 rfl) ?_
    refine hk_geti hx hb hts hC_10 hown hW gy td_10 1 (by decide) rfl kw_1144 ⟨rfl, rfl, rfl⟩ f_114 dX10_act_232 ?_
    refine lv_imul hx hb dX10_act_235 ?_
    refine lv_topi (fun x_141 ex_141 => ?_)
    obtain rfl : x_141 = (13 : Int32) := ex_141.trans (by decide)
    refine lv_iload hx hb dX10_act_236 (lv_at hl 0 rfl) ?_
    refine lv_iadd hx hb dX10_act_238 ?_
    refine lv_topi (fun x_142 ex_142 => ?_)
    obtain rfl : x_142 = (19 : Int32) := ex_142.trans (by decide)
    refine lv_aload_n hx hb dX10_act_239 rfl (lv_at hl 3 rfl) ?_
    refine hk_getr hx hb hts hC_10 hown hW gy td_10 12 (by decide) rfl kw_1155 ⟨rfl, rfl, rfl⟩ f_y_12 dX10_act_240 ?_
    refine lv_iload hx hb dX10_act_243 (lv_at hl 0 rfl) ?_
    refine hk_iald hx hb hW gq4 td_54 rfl (by decide) rfl dX10_act_245 ?_
    refine hk_iast hx hb hW gq6 td_50 rfl (by decide) rfl dX10_act_246 (fun H locs h_143 eh_143 hW hs => ?_)
    have f_y_12 := (hs.o gy trivial rfl).2.trans f_y_12
    have f_y_15 := (hs.o gy trivial rfl).2.trans f_y_15
    have f_y_4 := (hs.o gy trivial rfl).2.trans f_y_4
    have f_y_5 := (hs.o gy trivial rfl).2.trans f_y_5
    have f_y_2 := (hs.o gy trivial rfl).2.trans f_y_2
    have f_y_3 := (hs.o gy trivial rfl).2.trans f_y_3
    have f_8 := (hs.o gy trivial rfl).1.trans f_8
    have f_10 := (hs.o gy trivial rfl).1.trans f_10
    have f_12 := (hs.o gy trivial rfl).1.trans f_12
    have f_101 := (hs.o gy trivial rfl).1.trans f_101
    have f_110 := (hs.o gy trivial rfl).1.trans f_110
    have f_114 := (hs.o gy trivial rfl).1.trans f_114
    have hM := hM.tr (hs.mono (by decide))
    have gy := gy.S hs
    have gq4 := gq4.S hs
    have gq1 := gq1.S hs
    have gq2 := gq2.S hs
    have gq3 := gq3.S hs
    have gq5 := gq5.S hs
    have gq6 := gq6.S hs
    refine lv_iinc (v := 7) (lv' := [(4, .int (7 : Int32)), (3, .int (0 : Int32)), (2, .int (1 : Int32)), (0, .ref y), (1, .int d)]) hx hb dX10_act_247 hl (k := 0) rfl (by decide) (by decide) rfl (fun ls hl => ?_)
    refine lv_goto (tgt := 218) hx hb dX10_act_250 (by decide) ?_
    refine lv_iload hx hb dX10_act_218 (lv_at hl 0 rfl) ?_
    refine lv_bipush (v := 13) hx hb dX10_act_220 (by decide) ?_
    refine hb_icmp_ge (zx := 7) (zy := 13) (tgt := 253) hx hb (by decide) (by decide) dX10_act_222 (by decide) (fun c_144 => absurd c_144 (by decide)) (fun c_144 => ?_)
    refine lv_aload_n hx hb dX10_act_225 rfl (lv_at hl 3 rfl) ?_
    refine hk_getr hx hb hts hC_10 hown hW gy td_10 3 (by decide) rfl kw_1146 ⟨rfl, rfl, rfl⟩ f_y_3 dX10_act_226 ?_
    refine lv_bipush (v := 13) hx hb dX10_act_229 (by decide) ?_
    refine lv_aload_n hx hb dX10_act_231 rfl (lv_at hl 3 rfl) ?_
    refine hk_geti hx hb hts hC_10 hown hW gy td_10 1 (by decide) rfl kw_1144 ⟨rfl, rfl, rfl⟩ f_114 dX10_act_232 ?_
    refine lv_imul hx hb dX10_act_235 ?_
    refine lv_topi (fun x_145 ex_145 => ?_)
    obtain rfl : x_145 = (13 : Int32) := ex_145.trans (by decide)
    refine lv_iload hx hb dX10_act_236 (lv_at hl 0 rfl) ?_
    refine lv_iadd hx hb dX10_act_238 ?_
    refine lv_topi (fun x_146 ex_146 => ?_)
    obtain rfl : x_146 = (20 : Int32) := ex_146.trans (by decide)
    refine lv_aload_n hx hb dX10_act_239 rfl (lv_at hl 3 rfl) ?_
    refine hk_getr hx hb hts hC_10 hown hW gy td_10 12 (by decide) rfl kw_1155 ⟨rfl, rfl, rfl⟩ f_y_12 dX10_act_240 ?_
    refine lv_iload hx hb dX10_act_243 (lv_at hl 0 rfl) ?_
    refine hk_iald hx hb hW gq4 td_54 rfl (by decide) rfl dX10_act_245 ?_
    refine hk_iast hx hb hW gq6 td_50 rfl (by decide) rfl dX10_act_246 (fun H locs h_147 eh_147 hW hs => ?_)
    have f_y_12 := (hs.o gy trivial rfl).2.trans f_y_12
    have f_y_15 := (hs.o gy trivial rfl).2.trans f_y_15
    have f_y_4 := (hs.o gy trivial rfl).2.trans f_y_4
    have f_y_5 := (hs.o gy trivial rfl).2.trans f_y_5
    have f_y_2 := (hs.o gy trivial rfl).2.trans f_y_2
    have f_y_3 := (hs.o gy trivial rfl).2.trans f_y_3
    have f_8 := (hs.o gy trivial rfl).1.trans f_8
    have f_10 := (hs.o gy trivial rfl).1.trans f_10
    have f_12 := (hs.o gy trivial rfl).1.trans f_12
    have f_101 := (hs.o gy trivial rfl).1.trans f_101
    have f_110 := (hs.o gy trivial rfl).1.trans f_110
    have f_114 := (hs.o gy trivial rfl).1.trans f_114
    have hM := hM.tr (hs.mono (by decide))
    have gy := gy.S hs
    have gq4 := gq4.S hs
    have gq1 := gq1.S hs
    have gq2 := gq2.S hs
    have gq3 := gq3.S hs
    have gq5 := gq5.S hs
    have gq6 := gq6.S hs
    refine lv_iinc (v := 8) (lv' := [(4, .int (8 : Int32)), (3, .int (0 : Int32)), (2, .int (1 : Int32)), (0, .ref y), (1, .int d)]) hx hb dX10_act_247 hl (k := 0) rfl (by decide) (by decide) rfl (fun ls hl => ?_)
    refine lv_goto (tgt := 218) hx hb dX10_act_250 (by decide) ?_
    refine lv_iload hx hb dX10_act_218 (lv_at hl 0 rfl) ?_
    refine lv_bipush (v := 13) hx hb dX10_act_220 (by decide) ?_
    refine hb_icmp_ge (zx := 8) (zy := 13) (tgt := 253) hx hb (by decide) (by decide) dX10_act_222 (by decide) (fun c_148 => absurd c_148 (by decide)) (fun c_148 => ?_)
    refine lv_aload_n hx hb dX10_act_225 rfl (lv_at hl 3 rfl) ?_
    refine hk_getr hx hb hts hC_10 hown hW gy td_10 3 (by decide) rfl kw_1146 ⟨rfl, rfl, rfl⟩ f_y_3 dX10_act_226 ?_
    refine lv_bipush (v := 13) hx hb dX10_act_229 (by decide) ?_
    refine lv_aload_n hx hb dX10_act_231 rfl (lv_at hl 3 rfl) ?_
    refine hk_geti hx hb hts hC_10 hown hW gy td_10 1 (by decide) rfl kw_1144 ⟨rfl, rfl, rfl⟩ f_114 dX10_act_232 ?_
    refine lv_imul hx hb dX10_act_235 ?_
    refine lv_topi (fun x_149 ex_149 => ?_)
    obtain rfl : x_149 = (13 : Int32) := ex_149.trans (by decide)
    refine lv_iload hx hb dX10_act_236 (lv_at hl 0 rfl) ?_
    refine lv_iadd hx hb dX10_act_238 ?_
    refine lv_topi (fun x_150 ex_150 => ?_)
    obtain rfl : x_150 = (21 : Int32) := ex_150.trans (by decide)
    refine lv_aload_n hx hb dX10_act_239 rfl (lv_at hl 3 rfl) ?_
    refine hk_getr hx hb hts hC_10 hown hW gy td_10 12 (by decide) rfl kw_1155 ⟨rfl, rfl, rfl⟩ f_y_12 dX10_act_240 ?_
    refine lv_iload hx hb dX10_act_243 (lv_at hl 0 rfl) ?_
    refine hk_iald hx hb hW gq4 td_54 rfl (by decide) rfl dX10_act_245 ?_
    refine hk_iast hx hb hW gq6 td_50 rfl (by decide) rfl dX10_act_246 (fun H locs h_151 eh_151 hW hs => ?_)
    have f_y_12 := (hs.o gy trivial rfl).2.trans f_y_12
    have f_y_15 := (hs.o gy trivial rfl).2.trans f_y_15
    have f_y_4 := (hs.o gy trivial rfl).2.trans f_y_4
    have f_y_5 := (hs.o gy trivial rfl).2.trans f_y_5
    have f_y_2 := (hs.o gy trivial rfl).2.trans f_y_2
    have f_y_3 := (hs.o gy trivial rfl).2.trans f_y_3
    have f_8 := (hs.o gy trivial rfl).1.trans f_8
    have f_10 := (hs.o gy trivial rfl).1.trans f_10
    have f_12 := (hs.o gy trivial rfl).1.trans f_12
    have f_101 := (hs.o gy trivial rfl).1.trans f_101
    have f_110 := (hs.o gy trivial rfl).1.trans f_110
    have f_114 := (hs.o gy trivial rfl).1.trans f_114
    have hM := hM.tr (hs.mono (by decide))
    have gy := gy.S hs
    have gq4 := gq4.S hs
    have gq1 := gq1.S hs
    have gq2 := gq2.S hs
    have gq3 := gq3.S hs
    have gq5 := gq5.S hs
    have gq6 := gq6.S hs
    refine lv_iinc (v := 9) (lv' := [(4, .int (9 : Int32)), (3, .int (0 : Int32)), (2, .int (1 : Int32)), (0, .ref y), (1, .int d)]) hx hb dX10_act_247 hl (k := 0) rfl (by decide) (by decide) rfl (fun ls hl => ?_)
    refine lv_goto (tgt := 218) hx hb dX10_act_250 (by decide) ?_
    refine lv_iload hx hb dX10_act_218 (lv_at hl 0 rfl) ?_
    refine lv_bipush (v := 13) hx hb dX10_act_220 (by decide) ?_
    refine hb_icmp_ge (zx := 9) (zy := 13) (tgt := 253) hx hb (by decide) (by decide) dX10_act_222 (by decide) (fun c_152 => absurd c_152 (by decide)) (fun c_152 => ?_)
    refine lv_aload_n hx hb dX10_act_225 rfl (lv_at hl 3 rfl) ?_
    refine hk_getr hx hb hts hC_10 hown hW gy td_10 3 (by decide) rfl kw_1146 ⟨rfl, rfl, rfl⟩ f_y_3 dX10_act_226 ?_
    refine lv_bipush (v := 13) hx hb dX10_act_229 (by decide) ?_
    refine lv_aload_n hx hb dX10_act_231 rfl (lv_at hl 3 rfl) ?_
    refine hk_geti hx hb hts hC_10 hown hW gy td_10 1 (by decide) rfl kw_1144 ⟨rfl, rfl, rfl⟩ f_114 dX10_act_232 ?_
    refine lv_imul hx hb dX10_act_235 ?_
    refine lv_topi (fun x_153 ex_153 => ?_)
    obtain rfl : x_153 = (13 : Int32) := ex_153.trans (by decide)
    refine lv_iload hx hb dX10_act_236 (lv_at hl 0 rfl) ?_
    refine lv_iadd hx hb dX10_act_238 ?_
    refine lv_topi (fun x_154 ex_154 => ?_)
    obtain rfl : x_154 = (22 : Int32) := ex_154.trans (by decide)
    refine lv_aload_n hx hb dX10_act_239 rfl (lv_at hl 3 rfl) ?_
    refine hk_getr hx hb hts hC_10 hown hW gy td_10 12 (by decide) rfl kw_1155 ⟨rfl, rfl, rfl⟩ f_y_12 dX10_act_240 ?_
    refine lv_iload hx hb dX10_act_243 (lv_at hl 0 rfl) ?_
    refine hk_iald hx hb hW gq4 td_54 rfl (by decide) rfl dX10_act_245 ?_
    refine hk_iast hx hb hW gq6 td_50 rfl (by decide) rfl dX10_act_246 (fun H locs h_155 eh_155 hW hs => ?_)
    have f_y_12 := (hs.o gy trivial rfl).2.trans f_y_12
    have f_y_15 := (hs.o gy trivial rfl).2.trans f_y_15
    have f_y_4 := (hs.o gy trivial rfl).2.trans f_y_4
    have f_y_5 := (hs.o gy trivial rfl).2.trans f_y_5
    have f_y_2 := (hs.o gy trivial rfl).2.trans f_y_2
    have f_y_3 := (hs.o gy trivial rfl).2.trans f_y_3
    have f_8 := (hs.o gy trivial rfl).1.trans f_8
    have f_10 := (hs.o gy trivial rfl).1.trans f_10
    have f_12 := (hs.o gy trivial rfl).1.trans f_12
    have f_101 := (hs.o gy trivial rfl).1.trans f_101
    have f_110 := (hs.o gy trivial rfl).1.trans f_110
    have f_114 := (hs.o gy trivial rfl).1.trans f_114
    have hM := hM.tr (hs.mono (by decide))
    have gy := gy.S hs
    have gq4 := gq4.S hs
    have gq1 := gq1.S hs
    have gq2 := gq2.S hs
    have gq3 := gq3.S hs
    have gq5 := gq5.S hs
    have gq6 := gq6.S hs
    refine lv_iinc (v := 10) (lv' := [(4, .int (10 : Int32)), (3, .int (0 : Int32)), (2, .int (1 : Int32)), (0, .ref y), (1, .int d)]) hx hb dX10_act_247 hl (k := 0) rfl (by decide) (by decide) rfl (fun ls hl => ?_)
    refine lv_goto (tgt := 218) hx hb dX10_act_250 (by decide) ?_
    refine lv_iload hx hb dX10_act_218 (lv_at hl 0 rfl) ?_
    refine lv_bipush (v := 13) hx hb dX10_act_220 (by decide) ?_
    refine hb_icmp_ge (zx := 10) (zy := 13) (tgt := 253) hx hb (by decide) (by decide) dX10_act_222 (by decide) (fun c_156 => absurd c_156 (by decide)) (fun c_156 => ?_)
    refine lv_aload_n hx hb dX10_act_225 rfl (lv_at hl 3 rfl) ?_
    refine hk_getr hx hb hts hC_10 hown hW gy td_10 3 (by decide) rfl kw_1146 ⟨rfl, rfl, rfl⟩ f_y_3 dX10_act_226 ?_
    refine lv_bipush (v := 13) hx hb dX10_act_229 (by decide) ?_
    refine lv_aload_n hx hb dX10_act_231 rfl (lv_at hl 3 rfl) ?_
    refine hk_geti hx hb hts hC_10 hown hW gy td_10 1 (by decide) rfl kw_1144 ⟨rfl, rfl, rfl⟩ f_114 dX10_act_232 ?_
    refine lv_imul hx hb dX10_act_235 ?_
    refine lv_topi (fun x_157 ex_157 => ?_)
    obtain rfl : x_157 = (13 : Int32) := ex_157.trans (by decide)
    refine lv_iload hx hb dX10_act_236 (lv_at hl 0 rfl) ?_
    refine lv_iadd hx hb dX10_act_238 ?_
    refine lv_topi (fun x_158 ex_158 => ?_)
    obtain rfl : x_158 = (23 : Int32) := ex_158.trans (by decide)
    refine lv_aload_n hx hb dX10_act_239 rfl (lv_at hl 3 rfl) ?_
    refine hk_getr hx hb hts hC_10 hown hW gy td_10 12 (by decide) rfl kw_1155 ⟨rfl, rfl, rfl⟩ f_y_12 dX10_act_240 ?_
    refine lv_iload hx hb dX10_act_243 (lv_at hl 0 rfl) ?_
    refine hk_iald hx hb hW gq4 td_54 rfl (by decide) rfl dX10_act_245 ?_
    refine hk_iast hx hb hW gq6 td_50 rfl (by decide) rfl dX10_act_246 (fun H locs h_159 eh_159 hW hs => ?_)
    have f_y_12 := (hs.o gy trivial rfl).2.trans f_y_12
    have f_y_15 := (hs.o gy trivial rfl).2.trans f_y_15
    have f_y_4 := (hs.o gy trivial rfl).2.trans f_y_4
    have f_y_5 := (hs.o gy trivial rfl).2.trans f_y_5
    have f_y_2 := (hs.o gy trivial rfl).2.trans f_y_2
    have f_y_3 := (hs.o gy trivial rfl).2.trans f_y_3
    have f_8 := (hs.o gy trivial rfl).1.trans f_8
    have f_10 := (hs.o gy trivial rfl).1.trans f_10
    have f_12 := (hs.o gy trivial rfl).1.trans f_12
    have f_101 := (hs.o gy trivial rfl).1.trans f_101
    have f_110 := (hs.o gy trivial rfl).1.trans f_110
    have f_114 := (hs.o gy trivial rfl).1.trans f_114
    have hM := hM.tr (hs.mono (by decide))
    have gy := gy.S hs
    have gq4 := gq4.S hs
    have gq1 := gq1.S hs
    have gq2 := gq2.S hs
    have gq3 := gq3.S hs
    have gq5 := gq5.S hs
    have gq6 := gq6.S hs
    refine lv_iinc (v := 11) (lv' := [(4, .int (11 : Int32)), (3, .int (0 : Int32)), (2, .int (1 : Int32)), (0, .ref y), (1, .int d)]) hx hb dX10_act_247 hl (k := 0) rfl (by decide) (by decide) rfl (fun ls hl => ?_)
    refine lv_goto (tgt := 218) hx hb dX10_act_250 (by decide) ?_
    refine lv_iload hx hb dX10_act_218 (lv_at hl 0 rfl) ?_
    refine lv_bipush (v := 13) hx hb dX10_act_220 (by decide) ?_
    refine hb_icmp_ge (zx := 11) (zy := 13) (tgt := 253) hx hb (by decide) (by decide) dX10_act_222 (by decide) (fun c_160 => absurd c_160 (by decide)) (fun c_160 => ?_)
    refine lv_aload_n hx hb dX10_act_225 rfl (lv_at hl 3 rfl) ?_
    refine hk_getr hx hb hts hC_10 hown hW gy td_10 3 (by decide) rfl kw_1146 ⟨rfl, rfl, rfl⟩ f_y_3 dX10_act_226 ?_
    refine lv_bipush (v := 13) hx hb dX10_act_229 (by decide) ?_
    refine lv_aload_n hx hb dX10_act_231 rfl (lv_at hl 3 rfl) ?_
    refine hk_geti hx hb hts hC_10 hown hW gy td_10 1 (by decide) rfl kw_1144 ⟨rfl, rfl, rfl⟩ f_114 dX10_act_232 ?_
    refine lv_imul hx hb dX10_act_235 ?_
    refine lv_topi (fun x_161 ex_161 => ?_)
    obtain rfl : x_161 = (13 : Int32) := ex_161.trans (by decide)
    refine lv_iload hx hb dX10_act_236 (lv_at hl 0 rfl) ?_
    refine lv_iadd hx hb dX10_act_238 ?_
    refine lv_topi (fun x_162 ex_162 => ?_)
    obtain rfl : x_162 = (24 : Int32) := ex_162.trans (by decide)
    refine lv_aload_n hx hb dX10_act_239 rfl (lv_at hl 3 rfl) ?_
    refine hk_getr hx hb hts hC_10 hown hW gy td_10 12 (by decide) rfl kw_1155 ⟨rfl, rfl, rfl⟩ f_y_12 dX10_act_240 ?_
    refine lv_iload hx hb dX10_act_243 (lv_at hl 0 rfl) ?_
    refine hk_iald hx hb hW gq4 td_54 rfl (by decide) rfl dX10_act_245 ?_
    refine hk_iast hx hb hW gq6 td_50 rfl (by decide) rfl dX10_act_246 (fun H locs h_163 eh_163 hW hs => ?_)
    have f_y_12 := (hs.o gy trivial rfl).2.trans f_y_12
    have f_y_15 := (hs.o gy trivial rfl).2.trans f_y_15
    have f_y_4 := (hs.o gy trivial rfl).2.trans f_y_4
    have f_y_5 := (hs.o gy trivial rfl).2.trans f_y_5
    have f_y_2 := (hs.o gy trivial rfl).2.trans f_y_2
    have f_y_3 := (hs.o gy trivial rfl).2.trans f_y_3
    have f_8 := (hs.o gy trivial rfl).1.trans f_8
    have f_10 := (hs.o gy trivial rfl).1.trans f_10
    have f_12 := (hs.o gy trivial rfl).1.trans f_12
    have f_101 := (hs.o gy trivial rfl).1.trans f_101
    have f_110 := (hs.o gy trivial rfl).1.trans f_110
    have f_114 := (hs.o gy trivial rfl).1.trans f_114
    have hM := hM.tr (hs.mono (by decide))
    have gy := gy.S hs
    have gq4 := gq4.S hs
    have gq1 := gq1.S hs
    have gq2 := gq2.S hs
    have gq3 := gq3.S hs
    have gq5 := gq5.S hs
    have gq6 := gq6.S hs
    refine lv_iinc (v := 12) (lv' := [(4, .int (12 : Int32)), (3, .int (0 : Int32)), (2, .int (1 : Int32)), (0, .ref y), (1, .int d)]) hx hb dX10_act_247 hl (k := 0) rfl (by decide) (by decide) rfl (fun ls hl => ?_)
    refine lv_goto (tgt := 218) hx hb dX10_act_250 (by decide) ?_
    refine lv_iload hx hb dX10_act_218 (lv_at hl 0 rfl) ?_
    refine lv_bipush (v := 13) hx hb dX10_act_220 (by decide) ?_
    refine hb_icmp_ge (zx := 12) (zy := 13) (tgt := 253) hx hb (by decide) (by decide) dX10_act_222 (by decide) (fun c_164 => absurd c_164 (by decide)) (fun c_164 => ?_)
    refine lv_aload_n hx hb dX10_act_225 rfl (lv_at hl 3 rfl) ?_
    refine hk_getr hx hb hts hC_10 hown hW gy td_10 3 (by decide) rfl kw_1146 ⟨rfl, rfl, rfl⟩ f_y_3 dX10_act_226 ?_
    refine lv_bipush (v := 13) hx hb dX10_act_229 (by decide) ?_
    refine lv_aload_n hx hb dX10_act_231 rfl (lv_at hl 3 rfl) ?_
    refine hk_geti hx hb hts hC_10 hown hW gy td_10 1 (by decide) rfl kw_1144 ⟨rfl, rfl, rfl⟩ f_114 dX10_act_232 ?_
    refine lv_imul hx hb dX10_act_235 ?_
    refine lv_topi (fun x_165 ex_165 => ?_)
    obtain rfl : x_165 = (13 : Int32) := ex_165.trans (by decide)
    refine lv_iload hx hb dX10_act_236 (lv_at hl 0 rfl) ?_
    refine lv_iadd hx hb dX10_act_238 ?_
    refine lv_topi (fun x_166 ex_166 => ?_)
    obtain rfl : x_166 = (25 : Int32) := ex_166.trans (by decide)
    refine lv_aload_n hx hb dX10_act_239 rfl (lv_at hl 3 rfl) ?_
    refine hk_getr hx hb hts hC_10 hown hW gy td_10 12 (by decide) rfl kw_1155 ⟨rfl, rfl, rfl⟩ f_y_12 dX10_act_240 ?_
    refine lv_iload hx hb dX10_act_243 (lv_at hl 0 rfl) ?_
    refine hk_iald hx hb hW gq4 td_54 rfl (by decide) rfl dX10_act_245 ?_
    refine hk_iast hx hb hW gq6 td_50 rfl (by decide) rfl dX10_act_246 (fun H locs h_167 eh_167 hW hs => ?_)
    have f_y_12 := (hs.o gy trivial rfl).2.trans f_y_12
    have f_y_15 := (hs.o gy trivial rfl).2.trans f_y_15
    have f_y_4 := (hs.o gy trivial rfl).2.trans f_y_4
    have f_y_5 := (hs.o gy trivial rfl).2.trans f_y_5
    have f_y_2 := (hs.o gy trivial rfl).2.trans f_y_2
    have f_y_3 := (hs.o gy trivial rfl).2.trans f_y_3
    have f_8 := (hs.o gy trivial rfl).1.trans f_8
    have f_10 := (hs.o gy trivial rfl).1.trans f_10
    have f_12 := (hs.o gy trivial rfl).1.trans f_12
    have f_101 := (hs.o gy trivial rfl).1.trans f_101
    have f_110 := (hs.o gy trivial rfl).1.trans f_110
    have f_114 := (hs.o gy trivial rfl).1.trans f_114
    have hM := hM.tr (hs.mono (by decide))
    have gy := gy.S hs
    have gq4 := gq4.S hs
    have gq1 := gq1.S hs
    have gq2 := gq2.S hs
    have gq3 := gq3.S hs
    have gq5 := gq5.S hs
    have gq6 := gq6.S hs
    refine lv_iinc (v := 13) (lv' := [(4, .int (13 : Int32)), (3, .int (0 : Int32)), (2, .int (1 : Int32)), (0, .ref y), (1, .int d)]) hx hb dX10_act_247 hl (k := 0) rfl (by decide) (by decide) rfl (fun ls hl => ?_)
    refine lv_goto (tgt := 218) hx hb dX10_act_250 (by decide) ?_
    refine lv_iload hx hb dX10_act_218 (lv_at hl 0 rfl) ?_
    refine lv_bipush (v := 13) hx hb dX10_act_220 (by decide) ?_
    refine hb_icmp_ge (zx := 13) (zy := 13) (tgt := 253) hx hb (by decide) (by decide) dX10_act_222 (by decide) (fun c_168 => ?_) (fun c_168 => absurd c_168 (by decide))
    refine lv_aload_n hx hb dX10_act_253 rfl (lv_at hl 3 rfl) ?_
    refine lv_aload_n hx hb dX10_act_254 rfl (lv_at hl 3 rfl) ?_
    refine hk_geti hx hb hts hC_10 hown hW gy td_10 1 (by decide) rfl kw_1144 ⟨rfl, rfl, rfl⟩ f_114 dX10_act_255 ?_
    refine hx_gov (hx_runV (As := [.int (1 : Int32)]) (rest := []) ⟨hx, hb, hml, hown, hts⟩ hW gy td_10 (T := TX10) (N := 98) rfl (c_X10_keepsProof_1 l dC dI dA L_97 h_167 H.size y gy f_101 q1 gq1 f_y_15 q2 gq2 f_y_4 q3 gq3 f_y_5) (cwV 1 hts (hx_gV kw_1142 kw_1139 kw_1141 kw_51 kw_103) rfl rfl rfl (by decide +kernel) ⟨Nat.le_of_ble_eq_true rfl, Nat.le_of_ble_eq_true rfl⟩) rfl hl.1 rfl (Nat.le_of_ble_eq_true rfl) dX10_act_258 ⟨Nat.le_of_ble_eq_true rfl, Nat.le_of_ble_eq_true rfl⟩) hW (fun L_169 h_170 H locs p_172 hW => ?_)
    have hs : hx_S P_tb [(51, 0), (52, 0)] L_97 h_167 L_169 h_170 := p_172
    have f_y_12 := (hs.o gy trivial rfl).2.trans f_y_12
    have f_y_15 := (hs.o gy trivial rfl).2.trans f_y_15
    have f_y_4 := (hs.o gy trivial rfl).2.trans f_y_4
    have f_y_5 := (hs.o gy trivial rfl).2.trans f_y_5
    have f_y_2 := (hs.o gy trivial rfl).2.trans f_y_2
    have f_y_3 := (hs.o gy trivial rfl).2.trans f_y_3
    have f_8 := (hs.o gy trivial rfl).1.trans f_8
    have f_10 := (hs.o gy trivial rfl).1.trans f_10
    have f_12 := (hs.o gy trivial rfl).1.trans f_12
    have f_101 := (hs.o gy trivial rfl).1.trans f_101
    have f_110 := (hs.o gy trivial rfl).1.trans f_110
    have f_114 := (hs.o gy trivial rfl).1.trans f_114
    have hM := hM.tr (hs.mono (by decide))
    have gy := gy.S hs
    have gq4 := gq4.S hs
    have gq1 := gq1.S hs
    have gq2 := gq2.S hs
    have gq3 := gq3.S hs
    have gq5 := gq5.S hs
    have gq6 := gq6.S hs
    refine lv_aload_n hx hb dX10_act_261 rfl (lv_at hl 3 rfl) ?_
    refine hk_geti hx hb hts hC_10 hown hW gy td_10 1 (by decide) rfl kw_1144 ⟨rfl, rfl, rfl⟩ f_114 dX10_act_262 ?_
    refine lv_iconst (v := 1) hx hb dX10_act_265 (by decide) ?_
    refine lv_isub hx hb dX10_act_266 ?_
    refine lv_topi (fun x_173 ex_173 => ?_)
    obtain rfl : x_173 = (0 : Int32) := ex_173.trans (by decide)
    exact hx_reti hx hb hr hlk hW ⟨Or.inl ⟨by first | omega | decide, rfl⟩, hM⟩ dX10_act_267
  · skip
    refine hb_if_ne (zx := 0) (tgt := 18) hx hb (by decide) dX10_act_13 (by decide) (fun c_174 => absurd c_174 (by decide)) (fun c_174 => ?_)
    refine lv_iconst (v := -1) hx hb dX10_act_16 (by decide) ?_
    exact hx_reti hx hb hr hlk hW ⟨Or.inr ⟨by first | omega | decide, rfl⟩, hM⟩ dX10_act_17

