theorem dX7_isInRing_0 : decode cX7_isInRing 0 = .ok (.iconst 0, 1) := by decide +kernel
theorem dX7_isInRing_1 : decode cX7_isInRing 1 = .ok (.istore_n 3, 1) := by decide +kernel
theorem dX7_isInRing_2 : decode cX7_isInRing 2 = .ok (.iload_n 3, 1) := by decide +kernel
theorem dX7_isInRing_3 : decode cX7_isInRing 3 = .ok (.iload_n 2, 1) := by decide +kernel
theorem dX7_isInRing_4 : decode cX7_isInRing 4 = .ok (.if_icmp .ge 21, 3) := by decide +kernel
theorem dX7_isInRing_7 : decode cX7_isInRing 7 = .ok (.aload_n 0, 1) := by decide +kernel
theorem dX7_isInRing_8 : decode cX7_isInRing 8 = .ok (.getfield 22, 3) := by decide +kernel
theorem dX7_isInRing_11 : decode cX7_isInRing 11 = .ok (.iload_n 3, 1) := by decide +kernel
theorem dX7_isInRing_12 : decode cX7_isInRing 12 = .ok (.iaload, 1) := by decide +kernel
theorem dX7_isInRing_13 : decode cX7_isInRing 13 = .ok (.iload_n 1, 1) := by decide +kernel
theorem dX7_isInRing_14 : decode cX7_isInRing 14 = .ok (.if_icmp .ne 5, 3) := by decide +kernel
theorem dX7_isInRing_17 : decode cX7_isInRing 17 = .ok (.iconst 1, 1) := by decide +kernel
theorem dX7_isInRing_18 : decode cX7_isInRing 18 = .ok (.ireturn, 1) := by decide +kernel
theorem dX7_isInRing_19 : decode cX7_isInRing 19 = .ok (.iinc 3 1, 3) := by decide +kernel
theorem dX7_isInRing_22 : decode cX7_isInRing 22 = .ok (.goto (-20), 3) := by decide +kernel
theorem dX7_isInRing_25 : decode cX7_isInRing 25 = .ok (.iconst 0, 1) := by decide +kernel
theorem dX7_isInRing_26 : decode cX7_isInRing 26 = .ok (.ireturn, 1) := by decide +kernel
def wLX7_clear_0 : List Nat := [42, 27, 181, 0, 28, 42, 3, 181, 0, 9, 3, 61, 28, 42, 180, 0, 19, 190, 162, 0, 16, 42, 180, 0, 19, 28, 3, 79, 132, 2, 1, 167, 255, 237, 177]
theorem wX7_clear_0 : (cX7_clear.data.toList.map UInt8.toNat).drop 0 = wLX7_clear_0 ++ ([]) := by decide +kernel
theorem dX7_clear_0 : decode cX7_clear 0 = .ok (.aload_n 0, 1) := dq_42 (hz_wg wX7_clear_0 (j := 0) (n := 42) rfl)
theorem dX7_clear_1 : decode cX7_clear 1 = .ok (.iload_n 1, 1) := dq_27 (hz_wg wX7_clear_0 (j := 1) (n := 27) rfl)
theorem dX7_clear_2 : decode cX7_clear 2 = .ok (.putfield 28, 3) := dq_181 (hz_wg wX7_clear_0 (j := 2) (n := 181) rfl) (hz_wg wX7_clear_0 (j := 3) (n := 0) rfl) (hz_wg wX7_clear_0 (j := 4) (n := 28) rfl) rfl
theorem dX7_clear_5 : decode cX7_clear 5 = .ok (.aload_n 0, 1) := dq_42 (hz_wg wX7_clear_0 (j := 5) (n := 42) rfl)
theorem dX7_clear_6 : decode cX7_clear 6 = .ok (.iconst 0, 1) := dq_3 (hz_wg wX7_clear_0 (j := 6) (n := 3) rfl)
theorem dX7_clear_7 : decode cX7_clear 7 = .ok (.putfield 9, 3) := dq_181 (hz_wg wX7_clear_0 (j := 7) (n := 181) rfl) (hz_wg wX7_clear_0 (j := 8) (n := 0) rfl) (hz_wg wX7_clear_0 (j := 9) (n := 9) rfl) rfl
theorem dX7_clear_10 : decode cX7_clear 10 = .ok (.iconst 0, 1) := dq_3 (hz_wg wX7_clear_0 (j := 10) (n := 3) rfl)
theorem dX7_clear_11 : decode cX7_clear 11 = .ok (.istore_n 2, 1) := dq_61 (hz_wg wX7_clear_0 (j := 11) (n := 61) rfl)
theorem dX7_clear_12 : decode cX7_clear 12 = .ok (.iload_n 2, 1) := dq_28 (hz_wg wX7_clear_0 (j := 12) (n := 28) rfl)
theorem dX7_clear_13 : decode cX7_clear 13 = .ok (.aload_n 0, 1) := dq_42 (hz_wg wX7_clear_0 (j := 13) (n := 42) rfl)
theorem dX7_clear_14 : decode cX7_clear 14 = .ok (.getfield 19, 3) := dq_180 (hz_wg wX7_clear_0 (j := 14) (n := 180) rfl) (hz_wg wX7_clear_0 (j := 15) (n := 0) rfl) (hz_wg wX7_clear_0 (j := 16) (n := 19) rfl) rfl
theorem dX7_clear_17 : decode cX7_clear 17 = .ok (.arraylength, 1) := dq_190 (hz_wg wX7_clear_0 (j := 17) (n := 190) rfl)
theorem dX7_clear_18 : decode cX7_clear 18 = .ok (.if_icmp .ge 16, 3) := dq_162 (hz_wg wX7_clear_0 (j := 18) (n := 162) rfl) (hz_wg wX7_clear_0 (j := 19) (n := 0) rfl) (hz_wg wX7_clear_0 (j := 20) (n := 16) rfl) (by decide)
theorem dX7_clear_21 : decode cX7_clear 21 = .ok (.aload_n 0, 1) := dq_42 (hz_wg wX7_clear_0 (j := 21) (n := 42) rfl)
theorem dX7_clear_22 : decode cX7_clear 22 = .ok (.getfield 19, 3) := dq_180 (hz_wg wX7_clear_0 (j := 22) (n := 180) rfl) (hz_wg wX7_clear_0 (j := 23) (n := 0) rfl) (hz_wg wX7_clear_0 (j := 24) (n := 19) rfl) rfl
theorem dX7_clear_25 : decode cX7_clear 25 = .ok (.iload_n 2, 1) := dq_28 (hz_wg wX7_clear_0 (j := 25) (n := 28) rfl)
theorem dX7_clear_26 : decode cX7_clear 26 = .ok (.iconst 0, 1) := dq_3 (hz_wg wX7_clear_0 (j := 26) (n := 3) rfl)
theorem dX7_clear_27 : decode cX7_clear 27 = .ok (.iastore, 1) := dq_79 (hz_wg wX7_clear_0 (j := 27) (n := 79) rfl)
theorem dX7_clear_28 : decode cX7_clear 28 = .ok (.iinc 2 1, 3) := dq_132 (hz_wg wX7_clear_0 (j := 28) (n := 132) rfl) (hz_wg wX7_clear_0 (j := 29) (n := 2) rfl) (hz_wg wX7_clear_0 (j := 30) (n := 1) rfl) (by decide)
theorem dX7_clear_31 : decode cX7_clear 31 = .ok (.goto (-19), 3) := dq_167 (hz_wg wX7_clear_0 (j := 31) (n := 167) rfl) (hz_wg wX7_clear_0 (j := 32) (n := 255) rfl) (hz_wg wX7_clear_0 (j := 33) (n := 237) rfl) (by decide)
theorem dX7_clear_34 : decode cX7_clear 34 = .ok (.return_, 1) := dq_177 (hz_wg wX7_clear_0 (j := 34) (n := 177) rfl)
theorem dX7_owe_0 : decode cX7_owe 0 = .ok (.aload_n 0, 1) := by decide +kernel
theorem dX7_owe_1 : decode cX7_owe 1 = .ok (.getfield 19, 3) := by decide +kernel
theorem dX7_owe_4 : decode cX7_owe 4 = .ok (.iload_n 1, 1) := by decide +kernel
theorem dX7_owe_5 : decode cX7_owe 5 = .ok (.bipush 40, 2) := by decide +kernel
theorem dX7_owe_7 : decode cX7_owe 7 = .ok (.imul, 1) := by decide +kernel
theorem dX7_owe_8 : decode cX7_owe 8 = .ok (.iload_n 2, 1) := by decide +kernel
theorem dX7_owe_9 : decode cX7_owe 9 = .ok (.iadd, 1) := by decide +kernel
theorem dX7_owe_10 : decode cX7_owe 10 = .ok (.dup2, 1) := by decide +kernel
theorem dX7_owe_11 : decode cX7_owe 11 = .ok (.iaload, 1) := by decide +kernel
theorem dX7_owe_12 : decode cX7_owe 12 = .ok (.iload_n 3, 1) := by decide +kernel
theorem dX7_owe_13 : decode cX7_owe 13 = .ok (.iadd, 1) := by decide +kernel
theorem dX7_owe_14 : decode cX7_owe 14 = .ok (.iastore, 1) := by decide +kernel
theorem dX7_owe_15 : decode cX7_owe 15 = .ok (.return_, 1) := by decide +kernel
theorem dX7_placeAfter_0 : decode cX7_placeAfter 0 = .ok (.iload_n 1, 1) := by decide +kernel
theorem dX7_placeAfter_1 : decode cX7_placeAfter 1 = .ok (.iconst 1, 1) := by decide +kernel
theorem dX7_placeAfter_2 : decode cX7_placeAfter 2 = .ok (.iadd, 1) := by decide +kernel
theorem dX7_placeAfter_3 : decode cX7_placeAfter 3 = .ok (.aload_n 0, 1) := by decide +kernel
theorem dX7_placeAfter_4 : decode cX7_placeAfter 4 = .ok (.getfield 31, 3) := by decide +kernel
theorem dX7_placeAfter_7 : decode cX7_placeAfter 7 = .ok (.if_icmp .ge 9, 3) := by decide +kernel
theorem dX7_placeAfter_10 : decode cX7_placeAfter 10 = .ok (.iload_n 1, 1) := by decide +kernel
theorem dX7_placeAfter_11 : decode cX7_placeAfter 11 = .ok (.iconst 1, 1) := by decide +kernel
theorem dX7_placeAfter_12 : decode cX7_placeAfter 12 = .ok (.iadd, 1) := by decide +kernel
theorem dX7_placeAfter_13 : decode cX7_placeAfter 13 = .ok (.goto 4, 3) := by decide +kernel
theorem dX7_placeAfter_16 : decode cX7_placeAfter 16 = .ok (.iconst 0, 1) := by decide +kernel
theorem dX7_placeAfter_17 : decode cX7_placeAfter 17 = .ok (.ireturn, 1) := by decide +kernel