theorem dX7_isInRing_0 : decode cX7_isInRing 0 = .ok (.iconst 0, 1) := by decide +kernel
theorem dX7_isInRing_1 : decode cX7_isInRing 1 = .ok (.istore_n 3, 1) := by decide +kernel
theorem dX7_isInRing_2 : decode cX7_isInRing 2 = .ok (.iload_n 3, 1) := by decide +kernel
theorem dX7_isInRing_3 : decode cX7_isInRing 3 = .ok (.iload_n 2, 1) := by decide +kernel
theorem dX7_isInRing_4 : decode cX7_isInRing 4 = .ok (.if_icmp .ge 21, 3) := by decide +kernel
theorem dX7_isInRing_7 : decode cX7_isInRing 7 = .ok (.aload_n 0, 1) := by decide +kernel
theorem dX7_isInRing_8 : decode cX7_isInRing 8 = .ok (.getfield 22, 3) := by decide +kernel
theorem dX7_isInRing_11 : decode cX7_isInRing 11 = .ok (.iload_n 3, 1) := by decide +kernel
theorem dX7_isInRing_12 : decode cX7_isInRing 12 = .ok (.iaload, 1) := by decide +kernel
theorem dX7_isInRing_13 : decode cX7_isInRing 13 = .ok (.iload_n 1, 1) := by decide +kernel
theorem dX7_isInRing_14 : decode cX7_isInRing 14 = .ok (.if_icmp .ne 5, 3) := by decide +kernel
theorem dX7_isInRing_17 : decode cX7_isInRing 17 = .ok (.iconst 1, 1) := by decide +kernel
theorem dX7_isInRing_18 : decode cX7_isInRing 18 = .ok (.ireturn, 1) := by decide +kernel
theorem dX7_isInRing_19 : decode cX7_isInRing 19 = .ok (.iinc 3 1, 3) := by decide +kernel
theorem dX7_isInRing_22 : decode cX7_isInRing 22 = .ok (.goto (-20), 3) := by decide +kernel
theorem dX7_isInRing_25 : decode cX7_isInRing 25 = .ok (.iconst 0, 1) := by decide +kernel
theorem dX7_isInRing_26 : decode cX7_isInRing 26 = .ok (.ireturn, 1) := by decide +kernel
def wNX7_clear : Nat := 1350228353924437385275850289886505952057005540791100504285423050604837334859432401706
theorem wX7_clear_c : hz_cd cX7_clear wNX7_clear 35 := ⟨by decide +kernel, by decide +kernel⟩
theorem dX7_clear_0 : decode cX7_clear 0 = .ok (.aload_n 0, 1) := dw_42 wX7_clear_c rfl
theorem dX7_clear_1 : decode cX7_clear 1 = .ok (.iload_n 1, 1) := dw_27 wX7_clear_c rfl
theorem dX7_clear_2 : decode cX7_clear 2 = .ok (.putfield 28, 3) := dw_181 wX7_clear_c 0 28 rfl rfl
theorem dX7_clear_5 : decode cX7_clear 5 = .ok (.aload_n 0, 1) := dw_42 wX7_clear_c rfl
theorem dX7_clear_6 : decode cX7_clear 6 = .ok (.iconst 0, 1) := dw_3 wX7_clear_c rfl
theorem dX7_clear_7 : decode cX7_clear 7 = .ok (.putfield 9, 3) := dw_181 wX7_clear_c 0 9 rfl rfl
theorem dX7_clear_10 : decode cX7_clear 10 = .ok (.iconst 0, 1) := dw_3 wX7_clear_c rfl
theorem dX7_clear_11 : decode cX7_clear 11 = .ok (.istore_n 2, 1) := dw_61 wX7_clear_c rfl
theorem dX7_clear_12 : decode cX7_clear 12 = .ok (.iload_n 2, 1) := dw_28 wX7_clear_c rfl
theorem dX7_clear_13 : decode cX7_clear 13 = .ok (.aload_n 0, 1) := dw_42 wX7_clear_c rfl
theorem dX7_clear_14 : decode cX7_clear 14 = .ok (.getfield 19, 3) := dw_180 wX7_clear_c 0 19 rfl rfl
theorem dX7_clear_17 : decode cX7_clear 17 = .ok (.arraylength, 1) := dw_190 wX7_clear_c rfl
theorem dX7_clear_18 : decode cX7_clear 18 = .ok (.if_icmp .ge 16, 3) := dw_162 wX7_clear_c 0 16 rfl rfl rfl
theorem dX7_clear_21 : decode cX7_clear 21 = .ok (.aload_n 0, 1) := dw_42 wX7_clear_c rfl
theorem dX7_clear_22 : decode cX7_clear 22 = .ok (.getfield 19, 3) := dw_180 wX7_clear_c 0 19 rfl rfl
theorem dX7_clear_25 : decode cX7_clear 25 = .ok (.iload_n 2, 1) := dw_28 wX7_clear_c rfl
theorem dX7_clear_26 : decode cX7_clear 26 = .ok (.iconst 0, 1) := dw_3 wX7_clear_c rfl
theorem dX7_clear_27 : decode cX7_clear 27 = .ok (.iastore, 1) := dw_79 wX7_clear_c rfl
theorem dX7_clear_28 : decode cX7_clear 28 = .ok (.iinc 2 1, 3) := dw_132 wX7_clear_c 2 1 rfl rfl rfl
theorem dX7_clear_31 : decode cX7_clear 31 = .ok (.goto (-19), 3) := dn_167 wX7_clear_c 255 237 rfl (by decide)
theorem dX7_clear_34 : decode cX7_clear 34 = .ok (.return_, 1) := dw_177 wX7_clear_c rfl
theorem dX7_owe_0 : decode cX7_owe 0 = .ok (.aload_n 0, 1) := by decide +kernel
theorem dX7_owe_1 : decode cX7_owe 1 = .ok (.getfield 19, 3) := by decide +kernel
theorem dX7_owe_4 : decode cX7_owe 4 = .ok (.iload_n 1, 1) := by decide +kernel
theorem dX7_owe_5 : decode cX7_owe 5 = .ok (.bipush 40, 2) := by decide +kernel
theorem dX7_owe_7 : decode cX7_owe 7 = .ok (.imul, 1) := by decide +kernel
theorem dX7_owe_8 : decode cX7_owe 8 = .ok (.iload_n 2, 1) := by decide +kernel
theorem dX7_owe_9 : decode cX7_owe 9 = .ok (.iadd, 1) := by decide +kernel
theorem dX7_owe_10 : decode cX7_owe 10 = .ok (.dup2, 1) := by decide +kernel
theorem dX7_owe_11 : decode cX7_owe 11 = .ok (.iaload, 1) := by decide +kernel
theorem dX7_owe_12 : decode cX7_owe 12 = .ok (.iload_n 3, 1) := by decide +kernel
theorem dX7_owe_13 : decode cX7_owe 13 = .ok (.iadd, 1) := by decide +kernel
theorem dX7_owe_14 : decode cX7_owe 14 = .ok (.iastore, 1) := by decide +kernel
theorem dX7_owe_15 : decode cX7_owe 15 = .ok (.return_, 1) := by decide +kernel
theorem dX7_placeAfter_0 : decode cX7_placeAfter 0 = .ok (.iload_n 1, 1) := by decide +kernel
theorem dX7_placeAfter_1 : decode cX7_placeAfter 1 = .ok (.iconst 1, 1) := by decide +kernel
theorem dX7_placeAfter_2 : decode cX7_placeAfter 2 = .ok (.iadd, 1) := by decide +kernel
theorem dX7_placeAfter_3 : decode cX7_placeAfter 3 = .ok (.aload_n 0, 1) := by decide +kernel
theorem dX7_placeAfter_4 : decode cX7_placeAfter 4 = .ok (.getfield 31, 3) := by decide +kernel
theorem dX7_placeAfter_7 : decode cX7_placeAfter 7 = .ok (.if_icmp .ge 9, 3) := by decide +kernel
theorem dX7_placeAfter_10 : decode cX7_placeAfter 10 = .ok (.iload_n 1, 1) := by decide +kernel
theorem dX7_placeAfter_11 : decode cX7_placeAfter 11 = .ok (.iconst 1, 1) := by decide +kernel
theorem dX7_placeAfter_12 : decode cX7_placeAfter 12 = .ok (.iadd, 1) := by decide +kernel
theorem dX7_placeAfter_13 : decode cX7_placeAfter 13 = .ok (.goto 4, 3) := by decide +kernel
theorem dX7_placeAfter_16 : decode cX7_placeAfter 16 = .ok (.iconst 0, 1) := by decide +kernel
theorem dX7_placeAfter_17 : decode cX7_placeAfter 17 = .ok (.ireturn, 1) := by decide +kernel