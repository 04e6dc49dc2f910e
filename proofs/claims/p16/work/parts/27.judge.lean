def wLX0_holds_0 : List Nat := [43, 26, 16, 7, 126, 46, 61, 26, 16, 7, 122, 62, 26, 16, 6, 122, 4, 126, 4, 160, 0, 10, 43, 29, 16, 7, 126, 46, 62, 28, 29, 162, 0, 7, 4, 167, 0, 13, 28, 29, 160, 0, 7, 5, 167, 0, 4, 7, 54, 4, 26, 6, 122, 21, 4, 126, 153, 0, 7, 4, 167, 0, 4, 3]
def wLX0_holds_1 : List Nat := [172]
theorem wX0_holds_0 : (cX0_holds.data.toList.map UInt8.toNat).drop 0 = wLX0_holds_0 ++ (wLX0_holds_1 ++ ([])) := by decide +kernel
theorem wX0_holds_1 : (cX0_holds.data.toList.map UInt8.toNat).drop 64 = wLX0_holds_1 ++ ([]) := hz_wn wX0_holds_0 rfl
theorem dX0_holds_0 : decode cX0_holds 0 = .ok (.aload_n 1, 1) := dq_43 (hz_wg wX0_holds_0 (j := 0) (n := 43) rfl)
theorem dX0_holds_1 : decode cX0_holds 1 = .ok (.iload_n 0, 1) := dq_26 (hz_wg wX0_holds_0 (j := 1) (n := 26) rfl)
theorem dX0_holds_2 : decode cX0_holds 2 = .ok (.bipush 7, 2) := dq_16 (hz_wg wX0_holds_0 (j := 2) (n := 16) rfl) (hz_wg wX0_holds_0 (j := 3) (n := 7) rfl) (by decide)
theorem dX0_holds_4 : decode cX0_holds 4 = .ok (.iand, 1) := dq_126 (hz_wg wX0_holds_0 (j := 4) (n := 126) rfl)
theorem dX0_holds_5 : decode cX0_holds 5 = .ok (.iaload, 1) := dq_46 (hz_wg wX0_holds_0 (j := 5) (n := 46) rfl)
theorem dX0_holds_6 : decode cX0_holds 6 = .ok (.istore_n 2, 1) := dq_61 (hz_wg wX0_holds_0 (j := 6) (n := 61) rfl)
theorem dX0_holds_7 : decode cX0_holds 7 = .ok (.iload_n 0, 1) := dq_26 (hz_wg wX0_holds_0 (j := 7) (n := 26) rfl)
theorem dX0_holds_8 : decode cX0_holds 8 = .ok (.bipush 7, 2) := dq_16 (hz_wg wX0_holds_0 (j := 8) (n := 16) rfl) (hz_wg wX0_holds_0 (j := 9) (n := 7) rfl) (by decide)
theorem dX0_holds_10 : decode cX0_holds 10 = .ok (.ishr, 1) := dq_122 (hz_wg wX0_holds_0 (j := 10) (n := 122) rfl)
theorem dX0_holds_11 : decode cX0_holds 11 = .ok (.istore_n 3, 1) := dq_62 (hz_wg wX0_holds_0 (j := 11) (n := 62) rfl)
theorem dX0_holds_12 : decode cX0_holds 12 = .ok (.iload_n 0, 1) := dq_26 (hz_wg wX0_holds_0 (j := 12) (n := 26) rfl)
theorem dX0_holds_13 : decode cX0_holds 13 = .ok (.bipush 6, 2) := dq_16 (hz_wg wX0_holds_0 (j := 13) (n := 16) rfl) (hz_wg wX0_holds_0 (j := 14) (n := 6) rfl) (by decide)
theorem dX0_holds_15 : decode cX0_holds 15 = .ok (.ishr, 1) := dq_122 (hz_wg wX0_holds_0 (j := 15) (n := 122) rfl)
theorem dX0_holds_16 : decode cX0_holds 16 = .ok (.iconst 1, 1) := dq_4 (hz_wg wX0_holds_0 (j := 16) (n := 4) rfl)
theorem dX0_holds_17 : decode cX0_holds 17 = .ok (.iand, 1) := dq_126 (hz_wg wX0_holds_0 (j := 17) (n := 126) rfl)
theorem dX0_holds_18 : decode cX0_holds 18 = .ok (.iconst 1, 1) := dq_4 (hz_wg wX0_holds_0 (j := 18) (n := 4) rfl)
theorem dX0_holds_19 : decode cX0_holds 19 = .ok (.if_icmp .ne 10, 3) := dq_160 (hz_wg wX0_holds_0 (j := 19) (n := 160) rfl) (hz_wg wX0_holds_0 (j := 20) (n := 0) rfl) (hz_wg wX0_holds_0 (j := 21) (n := 10) rfl) (by decide)
theorem dX0_holds_22 : decode cX0_holds 22 = .ok (.aload_n 1, 1) := dq_43 (hz_wg wX0_holds_0 (j := 22) (n := 43) rfl)
theorem dX0_holds_23 : decode cX0_holds 23 = .ok (.iload_n 3, 1) := dq_29 (hz_wg wX0_holds_0 (j := 23) (n := 29) rfl)
theorem dX0_holds_24 : decode cX0_holds 24 = .ok (.bipush 7, 2) := dq_16 (hz_wg wX0_holds_0 (j := 24) (n := 16) rfl) (hz_wg wX0_holds_0 (j := 25) (n := 7) rfl) (by decide)
theorem dX0_holds_26 : decode cX0_holds 26 = .ok (.iand, 1) := dq_126 (hz_wg wX0_holds_0 (j := 26) (n := 126) rfl)
theorem dX0_holds_27 : decode cX0_holds 27 = .ok (.iaload, 1) := dq_46 (hz_wg wX0_holds_0 (j := 27) (n := 46) rfl)
theorem dX0_holds_28 : decode cX0_holds 28 = .ok (.istore_n 3, 1) := dq_62 (hz_wg wX0_holds_0 (j := 28) (n := 62) rfl)
theorem dX0_holds_29 : decode cX0_holds 29 = .ok (.iload_n 2, 1) := dq_28 (hz_wg wX0_holds_0 (j := 29) (n := 28) rfl)
theorem dX0_holds_30 : decode cX0_holds 30 = .ok (.iload_n 3, 1) := dq_29 (hz_wg wX0_holds_0 (j := 30) (n := 29) rfl)
theorem dX0_holds_31 : decode cX0_holds 31 = .ok (.if_icmp .ge 7, 3) := dq_162 (hz_wg wX0_holds_0 (j := 31) (n := 162) rfl) (hz_wg wX0_holds_0 (j := 32) (n := 0) rfl) (hz_wg wX0_holds_0 (j := 33) (n := 7) rfl) (by decide)
theorem dX0_holds_34 : decode cX0_holds 34 = .ok (.iconst 1, 1) := dq_4 (hz_wg wX0_holds_0 (j := 34) (n := 4) rfl)
theorem dX0_holds_35 : decode cX0_holds 35 = .ok (.goto 13, 3) := dq_167 (hz_wg wX0_holds_0 (j := 35) (n := 167) rfl) (hz_wg wX0_holds_0 (j := 36) (n := 0) rfl) (hz_wg wX0_holds_0 (j := 37) (n := 13) rfl) (by decide)
theorem dX0_holds_38 : decode cX0_holds 38 = .ok (.iload_n 2, 1) := dq_28 (hz_wg wX0_holds_0 (j := 38) (n := 28) rfl)
theorem dX0_holds_39 : decode cX0_holds 39 = .ok (.iload_n 3, 1) := dq_29 (hz_wg wX0_holds_0 (j := 39) (n := 29) rfl)
theorem dX0_holds_40 : decode cX0_holds 40 = .ok (.if_icmp .ne 7, 3) := dq_160 (hz_wg wX0_holds_0 (j := 40) (n := 160) rfl) (hz_wg wX0_holds_0 (j := 41) (n := 0) rfl) (hz_wg wX0_holds_0 (j := 42) (n := 7) rfl) (by decide)
theorem dX0_holds_43 : decode cX0_holds 43 = .ok (.iconst 2, 1) := dq_5 (hz_wg wX0_holds_0 (j := 43) (n := 5) rfl)
theorem dX0_holds_44 : decode cX0_holds 44 = .ok (.goto 4, 3) := dq_167 (hz_wg wX0_holds_0 (j := 44) (n := 167) rfl) (hz_wg wX0_holds_0 (j := 45) (n := 0) rfl) (hz_wg wX0_holds_0 (j := 46) (n := 4) rfl) (by decide)
theorem dX0_holds_47 : decode cX0_holds 47 = .ok (.iconst 4, 1) := dq_7 (hz_wg wX0_holds_0 (j := 47) (n := 7) rfl)
theorem dX0_holds_48 : decode cX0_holds 48 = .ok (.istore 4, 2) := dq_54 (hz_wg wX0_holds_0 (j := 48) (n := 54) rfl) (hz_wg wX0_holds_0 (j := 49) (n := 4) rfl)
theorem dX0_holds_50 : decode cX0_holds 50 = .ok (.iload_n 0, 1) := dq_26 (hz_wg wX0_holds_0 (j := 50) (n := 26) rfl)
theorem dX0_holds_51 : decode cX0_holds 51 = .ok (.iconst 3, 1) := dq_6 (hz_wg wX0_holds_0 (j := 51) (n := 6) rfl)
theorem dX0_holds_52 : decode cX0_holds 52 = .ok (.ishr, 1) := dq_122 (hz_wg wX0_holds_0 (j := 52) (n := 122) rfl)
theorem dX0_holds_53 : decode cX0_holds 53 = .ok (.iload 4, 2) := dq_21 (hz_wg wX0_holds_0 (j := 53) (n := 21) rfl) (hz_wg wX0_holds_0 (j := 54) (n := 4) rfl)
theorem dX0_holds_55 : decode cX0_holds 55 = .ok (.iand, 1) := dq_126 (hz_wg wX0_holds_0 (j := 55) (n := 126) rfl)
theorem dX0_holds_56 : decode cX0_holds 56 = .ok (.ifCond .eq 7, 3) := dq_153 (hz_wg wX0_holds_0 (j := 56) (n := 153) rfl) (hz_wg wX0_holds_0 (j := 57) (n := 0) rfl) (hz_wg wX0_holds_0 (j := 58) (n := 7) rfl) (by decide)
theorem dX0_holds_59 : decode cX0_holds 59 = .ok (.iconst 1, 1) := dq_4 (hz_wg wX0_holds_0 (j := 59) (n := 4) rfl)
theorem dX0_holds_60 : decode cX0_holds 60 = .ok (.goto 4, 3) := dq_167 (hz_wg wX0_holds_0 (j := 60) (n := 167) rfl) (hz_wg wX0_holds_0 (j := 61) (n := 0) rfl) (hz_wg wX0_holds_0 (j := 62) (n := 4) rfl) (by decide)
theorem dX0_holds_63 : decode cX0_holds 63 = .ok (.iconst 0, 1) := dq_3 (hz_wg wX0_holds_0 (j := 63) (n := 3) rfl)
theorem dX0_holds_64 : decode cX0_holds 64 = .ok (.ireturn, 1) := dq_172 (hz_wg wX0_holds_1 (j := 0) (n := 172) rfl)
def wLX0_proves_0 : List Nat := [3, 61, 3, 62, 29, 42, 180, 0, 38, 162, 0, 113, 28, 4, 126, 54, 4, 28, 4, 122, 4, 126, 54, 5, 42, 180, 0, 15, 29, 46, 170, 0, 0, 0, 0, 63, 255, 255, 255, 253, 255, 255, 255, 255, 0, 0, 0, 26, 0, 0, 0, 48, 0, 0, 0, 33, 28, 4, 130, 61, 167, 0, 56, 28]
def wLX0_proves_1 : List Nat := [5, 122, 4, 120, 21, 4, 21, 5, 126, 128, 61, 167, 0, 41, 28, 5, 122, 4, 120, 21, 4, 128, 21, 5, 128, 61, 167, 0, 26, 28, 4, 120, 42, 180, 0, 15, 29, 46, 43, 184, 0, 41, 153, 0, 7, 4, 167, 0, 4, 3, 128, 61, 132, 3, 1, 167, 255, 141, 28, 4, 126, 4, 160, 0]
def wLX0_proves_2 : List Nat := [7, 4, 167, 0, 4, 3, 172]
theorem wX0_proves_0 : (cX0_proves.data.toList.map UInt8.toNat).drop 0 = wLX0_proves_0 ++ (wLX0_proves_1 ++ (wLX0_proves_2 ++ ([]))) := by decide +kernel
theorem wX0_proves_1 : (cX0_proves.data.toList.map UInt8.toNat).drop 64 = wLX0_proves_1 ++ (wLX0_proves_2 ++ ([])) := hz_wn wX0_proves_0 rfl
theorem wX0_proves_2 : (cX0_proves.data.toList.map UInt8.toNat).drop 128 = wLX0_proves_2 ++ ([]) := hz_wn wX0_proves_1 rfl
theorem dX0_proves_0 : decode cX0_proves 0 = .ok (.iconst 0, 1) := dq_3 (hz_wg wX0_proves_0 (j := 0) (n := 3) rfl)
theorem dX0_proves_1 : decode cX0_proves 1 = .ok (.istore_n 2, 1) := dq_61 (hz_wg wX0_proves_0 (j := 1) (n := 61) rfl)
theorem dX0_proves_2 : decode cX0_proves 2 = .ok (.iconst 0, 1) := dq_3 (hz_wg wX0_proves_0 (j := 2) (n := 3) rfl)
theorem dX0_proves_3 : decode cX0_proves 3 = .ok (.istore_n 3, 1) := dq_62 (hz_wg wX0_proves_0 (j := 3) (n := 62) rfl)
theorem dX0_proves_4 : decode cX0_proves 4 = .ok (.iload_n 3, 1) := dq_29 (hz_wg wX0_proves_0 (j := 4) (n := 29) rfl)
theorem dX0_proves_5 : decode cX0_proves 5 = .ok (.aload_n 0, 1) := dq_42 (hz_wg wX0_proves_0 (j := 5) (n := 42) rfl)
theorem dX0_proves_6 : decode cX0_proves 6 = .ok (.getfield 38, 3) := dq_180 (hz_wg wX0_proves_0 (j := 6) (n := 180) rfl) (hz_wg wX0_proves_0 (j := 7) (n := 0) rfl) (hz_wg wX0_proves_0 (j := 8) (n := 38) rfl) rfl
theorem dX0_proves_9 : decode cX0_proves 9 = .ok (.if_icmp .ge 113, 3) := dq_162 (hz_wg wX0_proves_0 (j := 9) (n := 162) rfl) (hz_wg wX0_proves_0 (j := 10) (n := 0) rfl) (hz_wg wX0_proves_0 (j := 11) (n := 113) rfl) (by decide)
theorem dX0_proves_12 : decode cX0_proves 12 = .ok (.iload_n 2, 1) := dq_28 (hz_wg wX0_proves_0 (j := 12) (n := 28) rfl)
theorem dX0_proves_13 : decode cX0_proves 13 = .ok (.iconst 1, 1) := dq_4 (hz_wg wX0_proves_0 (j := 13) (n := 4) rfl)
theorem dX0_proves_14 : decode cX0_proves 14 = .ok (.iand, 1) := dq_126 (hz_wg wX0_proves_0 (j := 14) (n := 126) rfl)
theorem dX0_proves_15 : decode cX0_proves 15 = .ok (.istore 4, 2) := dq_54 (hz_wg wX0_proves_0 (j := 15) (n := 54) rfl) (hz_wg wX0_proves_0 (j := 16) (n := 4) rfl)
theorem dX0_proves_17 : decode cX0_proves 17 = .ok (.iload_n 2, 1) := dq_28 (hz_wg wX0_proves_0 (j := 17) (n := 28) rfl)
theorem dX0_proves_18 : decode cX0_proves 18 = .ok (.iconst 1, 1) := dq_4 (hz_wg wX0_proves_0 (j := 18) (n := 4) rfl)
theorem dX0_proves_19 : decode cX0_proves 19 = .ok (.ishr, 1) := dq_122 (hz_wg wX0_proves_0 (j := 19) (n := 122) rfl)
theorem dX0_proves_20 : decode cX0_proves 20 = .ok (.iconst 1, 1) := dq_4 (hz_wg wX0_proves_0 (j := 20) (n := 4) rfl)
theorem dX0_proves_21 : decode cX0_proves 21 = .ok (.iand, 1) := dq_126 (hz_wg wX0_proves_0 (j := 21) (n := 126) rfl)
theorem dX0_proves_22 : decode cX0_proves 22 = .ok (.istore 5, 2) := dq_54 (hz_wg wX0_proves_0 (j := 22) (n := 54) rfl) (hz_wg wX0_proves_0 (j := 23) (n := 5) rfl)
theorem dX0_proves_24 : decode cX0_proves 24 = .ok (.aload_n 0, 1) := dq_42 (hz_wg wX0_proves_0 (j := 24) (n := 42) rfl)
theorem dX0_proves_25 : decode cX0_proves 25 = .ok (.getfield 15, 3) := dq_180 (hz_wg wX0_proves_0 (j := 25) (n := 180) rfl) (hz_wg wX0_proves_0 (j := 26) (n := 0) rfl) (hz_wg wX0_proves_0 (j := 27) (n := 15) rfl) rfl
theorem dX0_proves_28 : decode cX0_proves 28 = .ok (.iload_n 3, 1) := dq_29 (hz_wg wX0_proves_0 (j := 28) (n := 29) rfl)
theorem dX0_proves_29 : decode cX0_proves 29 = .ok (.iaload, 1) := dq_46 (hz_wg wX0_proves_0 (j := 29) (n := 46) rfl)
theorem dX0_proves_30 : decode cX0_proves 30 = .ok (.tableswitch 63 (-3) (-1) #[26, 48, 33], 26) := by decide +kernel
theorem dX0_proves_56 : decode cX0_proves 56 = .ok (.iload_n 2, 1) := dq_28 (hz_wg wX0_proves_0 (j := 56) (n := 28) rfl)
theorem dX0_proves_57 : decode cX0_proves 57 = .ok (.iconst 1, 1) := dq_4 (hz_wg wX0_proves_0 (j := 57) (n := 4) rfl)
theorem dX0_proves_58 : decode cX0_proves 58 = .ok (.ixor, 1) := dq_130 (hz_wg wX0_proves_0 (j := 58) (n := 130) rfl)
theorem dX0_proves_59 : decode cX0_proves 59 = .ok (.istore_n 2, 1) := dq_61 (hz_wg wX0_proves_0 (j := 59) (n := 61) rfl)
theorem dX0_proves_60 : decode cX0_proves 60 = .ok (.goto 56, 3) := dq_167 (hz_wg wX0_proves_0 (j := 60) (n := 167) rfl) (hz_wg wX0_proves_0 (j := 61) (n := 0) rfl) (hz_wg wX0_proves_0 (j := 62) (n := 56) rfl) (by decide)
theorem dX0_proves_63 : decode cX0_proves 63 = .ok (.iload_n 2, 1) := dq_28 (hz_wg wX0_proves_0 (j := 63) (n := 28) rfl)
theorem dX0_proves_64 : decode cX0_proves 64 = .ok (.iconst 2, 1) := dq_5 (hz_wg wX0_proves_1 (j := 0) (n := 5) rfl)
theorem dX0_proves_65 : decode cX0_proves 65 = .ok (.ishr, 1) := dq_122 (hz_wg wX0_proves_1 (j := 1) (n := 122) rfl)
theorem dX0_proves_66 : decode cX0_proves 66 = .ok (.iconst 1, 1) := dq_4 (hz_wg wX0_proves_1 (j := 2) (n := 4) rfl)
theorem dX0_proves_67 : decode cX0_proves 67 = .ok (.ishl, 1) := dq_120 (hz_wg wX0_proves_1 (j := 3) (n := 120) rfl)
theorem dX0_proves_68 : decode cX0_proves 68 = .ok (.iload 4, 2) := dq_21 (hz_wg wX0_proves_1 (j := 4) (n := 21) rfl) (hz_wg wX0_proves_1 (j := 5) (n := 4) rfl)
theorem dX0_proves_70 : decode cX0_proves 70 = .ok (.iload 5, 2) := dq_21 (hz_wg wX0_proves_1 (j := 6) (n := 21) rfl) (hz_wg wX0_proves_1 (j := 7) (n := 5) rfl)
theorem dX0_proves_72 : decode cX0_proves 72 = .ok (.iand, 1) := dq_126 (hz_wg wX0_proves_1 (j := 8) (n := 126) rfl)
theorem dX0_proves_73 : decode cX0_proves 73 = .ok (.ior, 1) := dq_128 (hz_wg wX0_proves_1 (j := 9) (n := 128) rfl)
theorem dX0_proves_74 : decode cX0_proves 74 = .ok (.istore_n 2, 1) := dq_61 (hz_wg wX0_proves_1 (j := 10) (n := 61) rfl)
theorem dX0_proves_75 : decode cX0_proves 75 = .ok (.goto 41, 3) := dq_167 (hz_wg wX0_proves_1 (j := 11) (n := 167) rfl) (hz_wg wX0_proves_1 (j := 12) (n := 0) rfl) (hz_wg wX0_proves_1 (j := 13) (n := 41) rfl) (by decide)
theorem dX0_proves_78 : decode cX0_proves 78 = .ok (.iload_n 2, 1) := dq_28 (hz_wg wX0_proves_1 (j := 14) (n := 28) rfl)
theorem dX0_proves_79 : decode cX0_proves 79 = .ok (.iconst 2, 1) := dq_5 (hz_wg wX0_proves_1 (j := 15) (n := 5) rfl)
theorem dX0_proves_80 : decode cX0_proves 80 = .ok (.ishr, 1) := dq_122 (hz_wg wX0_proves_1 (j := 16) (n := 122) rfl)
theorem dX0_proves_81 : decode cX0_proves 81 = .ok (.iconst 1, 1) := dq_4 (hz_wg wX0_proves_1 (j := 17) (n := 4) rfl)
theorem dX0_proves_82 : decode cX0_proves 82 = .ok (.ishl, 1) := dq_120 (hz_wg wX0_proves_1 (j := 18) (n := 120) rfl)
theorem dX0_proves_83 : decode cX0_proves 83 = .ok (.iload 4, 2) := dq_21 (hz_wg wX0_proves_1 (j := 19) (n := 21) rfl) (hz_wg wX0_proves_1 (j := 20) (n := 4) rfl)
theorem dX0_proves_85 : decode cX0_proves 85 = .ok (.ior, 1) := dq_128 (hz_wg wX0_proves_1 (j := 21) (n := 128) rfl)
theorem dX0_proves_86 : decode cX0_proves 86 = .ok (.iload 5, 2) := dq_21 (hz_wg wX0_proves_1 (j := 22) (n := 21) rfl) (hz_wg wX0_proves_1 (j := 23) (n := 5) rfl)
theorem dX0_proves_88 : decode cX0_proves 88 = .ok (.ior, 1) := dq_128 (hz_wg wX0_proves_1 (j := 24) (n := 128) rfl)
theorem dX0_proves_89 : decode cX0_proves 89 = .ok (.istore_n 2, 1) := dq_61 (hz_wg wX0_proves_1 (j := 25) (n := 61) rfl)
theorem dX0_proves_90 : decode cX0_proves 90 = .ok (.goto 26, 3) := dq_167 (hz_wg wX0_proves_1 (j := 26) (n := 167) rfl) (hz_wg wX0_proves_1 (j := 27) (n := 0) rfl) (hz_wg wX0_proves_1 (j := 28) (n := 26) rfl) (by decide)
theorem dX0_proves_93 : decode cX0_proves 93 = .ok (.iload_n 2, 1) := dq_28 (hz_wg wX0_proves_1 (j := 29) (n := 28) rfl)
theorem dX0_proves_94 : decode cX0_proves 94 = .ok (.iconst 1, 1) := dq_4 (hz_wg wX0_proves_1 (j := 30) (n := 4) rfl)
theorem dX0_proves_95 : decode cX0_proves 95 = .ok (.ishl, 1) := dq_120 (hz_wg wX0_proves_1 (j := 31) (n := 120) rfl)
theorem dX0_proves_96 : decode cX0_proves 96 = .ok (.aload_n 0, 1) := dq_42 (hz_wg wX0_proves_1 (j := 32) (n := 42) rfl)
theorem dX0_proves_97 : decode cX0_proves 97 = .ok (.getfield 15, 3) := dq_180 (hz_wg wX0_proves_1 (j := 33) (n := 180) rfl) (hz_wg wX0_proves_1 (j := 34) (n := 0) rfl) (hz_wg wX0_proves_1 (j := 35) (n := 15) rfl) rfl
theorem dX0_proves_100 : decode cX0_proves 100 = .ok (.iload_n 3, 1) := dq_29 (hz_wg wX0_proves_1 (j := 36) (n := 29) rfl)
theorem dX0_proves_101 : decode cX0_proves 101 = .ok (.iaload, 1) := dq_46 (hz_wg wX0_proves_1 (j := 37) (n := 46) rfl)
theorem dX0_proves_102 : decode cX0_proves 102 = .ok (.aload_n 1, 1) := dq_43 (hz_wg wX0_proves_1 (j := 38) (n := 43) rfl)
theorem dX0_proves_103 : decode cX0_proves 103 = .ok (.invokestatic 41, 3) := dq_184 (hz_wg wX0_proves_1 (j := 39) (n := 184) rfl) (hz_wg wX0_proves_1 (j := 40) (n := 0) rfl) (hz_wg wX0_proves_1 (j := 41) (n := 41) rfl) rfl
theorem dX0_proves_106 : decode cX0_proves 106 = .ok (.ifCond .eq 7, 3) := dq_153 (hz_wg wX0_proves_1 (j := 42) (n := 153) rfl) (hz_wg wX0_proves_1 (j := 43) (n := 0) rfl) (hz_wg wX0_proves_1 (j := 44) (n := 7) rfl) (by decide)
theorem dX0_proves_109 : decode cX0_proves 109 = .ok (.iconst 1, 1) := dq_4 (hz_wg wX0_proves_1 (j := 45) (n := 4) rfl)
theorem dX0_proves_110 : decode cX0_proves 110 = .ok (.goto 4, 3) := dq_167 (hz_wg wX0_proves_1 (j := 46) (n := 167) rfl) (hz_wg wX0_proves_1 (j := 47) (n := 0) rfl) (hz_wg wX0_proves_1 (j := 48) (n := 4) rfl) (by decide)
theorem dX0_proves_113 : decode cX0_proves 113 = .ok (.iconst 0, 1) := dq_3 (hz_wg wX0_proves_1 (j := 49) (n := 3) rfl)
theorem dX0_proves_114 : decode cX0_proves 114 = .ok (.ior, 1) := dq_128 (hz_wg wX0_proves_1 (j := 50) (n := 128) rfl)
theorem dX0_proves_115 : decode cX0_proves 115 = .ok (.istore_n 2, 1) := dq_61 (hz_wg wX0_proves_1 (j := 51) (n := 61) rfl)
theorem dX0_proves_116 : decode cX0_proves 116 = .ok (.iinc 3 1, 3) := dq_132 (hz_wg wX0_proves_1 (j := 52) (n := 132) rfl) (hz_wg wX0_proves_1 (j := 53) (n := 3) rfl) (hz_wg wX0_proves_1 (j := 54) (n := 1) rfl) (by decide)
theorem dX0_proves_119 : decode cX0_proves 119 = .ok (.goto (-115), 3) := dq_167 (hz_wg wX0_proves_1 (j := 55) (n := 167) rfl) (hz_wg wX0_proves_1 (j := 56) (n := 255) rfl) (hz_wg wX0_proves_1 (j := 57) (n := 141) rfl) (by decide)
theorem dX0_proves_122 : decode cX0_proves 122 = .ok (.iload_n 2, 1) := dq_28 (hz_wg wX0_proves_1 (j := 58) (n := 28) rfl)
theorem dX0_proves_123 : decode cX0_proves 123 = .ok (.iconst 1, 1) := dq_4 (hz_wg wX0_proves_1 (j := 59) (n := 4) rfl)
theorem dX0_proves_124 : decode cX0_proves 124 = .ok (.iand, 1) := dq_126 (hz_wg wX0_proves_1 (j := 60) (n := 126) rfl)
theorem dX0_proves_125 : decode cX0_proves 125 = .ok (.iconst 1, 1) := dq_4 (hz_wg wX0_proves_1 (j := 61) (n := 4) rfl)
theorem dX0_proves_126 : decode cX0_proves 126 = .ok (.if_icmp .ne 7, 3) := dq_160 (hz_wg wX0_proves_1 (j := 62) (n := 160) rfl) (hz_wg wX0_proves_1 (j := 63) (n := 0) rfl) (hz_wg wX0_proves_2 (j := 0) (n := 7) rfl) (by decide)
theorem dX0_proves_129 : decode cX0_proves 129 = .ok (.iconst 1, 1) := dq_4 (hz_wg wX0_proves_2 (j := 1) (n := 4) rfl)
theorem dX0_proves_130 : decode cX0_proves 130 = .ok (.goto 4, 3) := dq_167 (hz_wg wX0_proves_2 (j := 2) (n := 167) rfl) (hz_wg wX0_proves_2 (j := 3) (n := 0) rfl) (hz_wg wX0_proves_2 (j := 4) (n := 4) rfl) (by decide)
theorem dX0_proves_133 : decode cX0_proves 133 = .ok (.iconst 0, 1) := dq_3 (hz_wg wX0_proves_2 (j := 5) (n := 3) rfl)
theorem dX0_proves_134 : decode cX0_proves 134 = .ok (.ireturn, 1) := dq_172 (hz_wg wX0_proves_2 (j := 6) (n := 172) rfl)
theorem dX4_isKinOf_0 : decode cX4_isKinOf 0 = .ok (.aload_n 0, 1) := by decide +kernel
theorem dX4_isKinOf_1 : decode cX4_isKinOf 1 = .ok (.aload_n 1, 1) := by decide +kernel
theorem dX4_isKinOf_2 : decode cX4_isKinOf 2 = .ok (.if_acmp .eq 22, 3) := by decide +kernel
theorem dX4_isKinOf_5 : decode cX4_isKinOf 5 = .ok (.aload_n 0, 1) := by decide +kernel
theorem dX4_isKinOf_6 : decode cX4_isKinOf 6 = .ok (.getfield 18, 3) := by decide +kernel
theorem dX4_isKinOf_9 : decode cX4_isKinOf 9 = .ok (.iconst (-1), 1) := by decide +kernel
theorem dX4_isKinOf_10 : decode cX4_isKinOf 10 = .ok (.if_icmp .eq 18, 3) := by decide +kernel
theorem dX4_isKinOf_13 : decode cX4_isKinOf 13 = .ok (.aload_n 0, 1) := by decide +kernel
theorem dX4_isKinOf_14 : decode cX4_isKinOf 14 = .ok (.getfield 18, 3) := by decide +kernel
theorem dX4_isKinOf_17 : decode cX4_isKinOf 17 = .ok (.aload_n 1, 1) := by decide +kernel
theorem dX4_isKinOf_18 : decode cX4_isKinOf 18 = .ok (.getfield 18, 3) := by decide +kernel
theorem dX4_isKinOf_21 : decode cX4_isKinOf 21 = .ok (.if_icmp .ne 7, 3) := by decide +kernel
theorem dX4_isKinOf_24 : decode cX4_isKinOf 24 = .ok (.iconst 1, 1) := by decide +kernel
theorem dX4_isKinOf_25 : decode cX4_isKinOf 25 = .ok (.goto 4, 3) := by decide +kernel
theorem dX4_isKinOf_28 : decode cX4_isKinOf 28 = .ok (.iconst 0, 1) := by decide +kernel
theorem dX4_isKinOf_29 : decode cX4_isKinOf 29 = .ok (.ireturn, 1) := by decide +kernel
def wLX4_maySit_0 : List Nat := [42, 180, 0, 39, 153, 0, 36, 42, 180, 0, 43, 154, 0, 29, 42, 43, 180, 0, 46, 182, 0, 52, 154, 0, 18, 42, 43, 180, 0, 56, 182, 0, 52, 154, 0, 7, 4, 167, 0, 4, 3, 172]
theorem wX4_maySit_0 : (cX4_maySit.data.toList.map UInt8.toNat).drop 0 = wLX4_maySit_0 ++ ([]) := by decide +kernel
theorem dX4_maySit_0 : decode cX4_maySit 0 = .ok (.aload_n 0, 1) := dq_42 (hz_wg wX4_maySit_0 (j := 0) (n := 42) rfl)
theorem dX4_maySit_1 : decode cX4_maySit 1 = .ok (.getfield 39, 3) := dq_180 (hz_wg wX4_maySit_0 (j := 1) (n := 180) rfl) (hz_wg wX4_maySit_0 (j := 2) (n := 0) rfl) (hz_wg wX4_maySit_0 (j := 3) (n := 39) rfl) rfl
theorem dX4_maySit_4 : decode cX4_maySit 4 = .ok (.ifCond .eq 36, 3) := dq_153 (hz_wg wX4_maySit_0 (j := 4) (n := 153) rfl) (hz_wg wX4_maySit_0 (j := 5) (n := 0) rfl) (hz_wg wX4_maySit_0 (j := 6) (n := 36) rfl) (by decide)
theorem dX4_maySit_7 : decode cX4_maySit 7 = .ok (.aload_n 0, 1) := dq_42 (hz_wg wX4_maySit_0 (j := 7) (n := 42) rfl)
theorem dX4_maySit_8 : decode cX4_maySit 8 = .ok (.getfield 43, 3) := dq_180 (hz_wg wX4_maySit_0 (j := 8) (n := 180) rfl) (hz_wg wX4_maySit_0 (j := 9) (n := 0) rfl) (hz_wg wX4_maySit_0 (j := 10) (n := 43) rfl) rfl
theorem dX4_maySit_11 : decode cX4_maySit 11 = .ok (.ifCond .ne 29, 3) := dq_154 (hz_wg wX4_maySit_0 (j := 11) (n := 154) rfl) (hz_wg wX4_maySit_0 (j := 12) (n := 0) rfl) (hz_wg wX4_maySit_0 (j := 13) (n := 29) rfl) (by decide)
theorem dX4_maySit_14 : decode cX4_maySit 14 = .ok (.aload_n 0, 1) := dq_42 (hz_wg wX4_maySit_0 (j := 14) (n := 42) rfl)
theorem dX4_maySit_15 : decode cX4_maySit 15 = .ok (.aload_n 1, 1) := dq_43 (hz_wg wX4_maySit_0 (j := 15) (n := 43) rfl)
theorem dX4_maySit_16 : decode cX4_maySit 16 = .ok (.getfield 46, 3) := dq_180 (hz_wg wX4_maySit_0 (j := 16) (n := 180) rfl) (hz_wg wX4_maySit_0 (j := 17) (n := 0) rfl) (hz_wg wX4_maySit_0 (j := 18) (n := 46) rfl) rfl
theorem dX4_maySit_19 : decode cX4_maySit 19 = .ok (.invokevirtual 52, 3) := dq_182 (hz_wg wX4_maySit_0 (j := 19) (n := 182) rfl) (hz_wg wX4_maySit_0 (j := 20) (n := 0) rfl) (hz_wg wX4_maySit_0 (j := 21) (n := 52) rfl) rfl
theorem dX4_maySit_22 : decode cX4_maySit 22 = .ok (.ifCond .ne 18, 3) := dq_154 (hz_wg wX4_maySit_0 (j := 22) (n := 154) rfl) (hz_wg wX4_maySit_0 (j := 23) (n := 0) rfl) (hz_wg wX4_maySit_0 (j := 24) (n := 18) rfl) (by decide)
theorem dX4_maySit_25 : decode cX4_maySit 25 = .ok (.aload_n 0, 1) := dq_42 (hz_wg wX4_maySit_0 (j := 25) (n := 42) rfl)
theorem dX4_maySit_26 : decode cX4_maySit 26 = .ok (.aload_n 1, 1) := dq_43 (hz_wg wX4_maySit_0 (j := 26) (n := 43) rfl)
theorem dX4_maySit_27 : decode cX4_maySit 27 = .ok (.getfield 56, 3) := dq_180 (hz_wg wX4_maySit_0 (j := 27) (n := 180) rfl) (hz_wg wX4_maySit_0 (j := 28) (n := 0) rfl) (hz_wg wX4_maySit_0 (j := 29) (n := 56) rfl) rfl
theorem dX4_maySit_30 : decode cX4_maySit 30 = .ok (.invokevirtual 52, 3) := dq_182 (hz_wg wX4_maySit_0 (j := 30) (n := 182) rfl) (hz_wg wX4_maySit_0 (j := 31) (n := 0) rfl) (hz_wg wX4_maySit_0 (j := 32) (n := 52) rfl) rfl
theorem dX4_maySit_33 : decode cX4_maySit 33 = .ok (.ifCond .ne 7, 3) := dq_154 (hz_wg wX4_maySit_0 (j := 33) (n := 154) rfl) (hz_wg wX4_maySit_0 (j := 34) (n := 0) rfl) (hz_wg wX4_maySit_0 (j := 35) (n := 7) rfl) (by decide)
theorem dX4_maySit_36 : decode cX4_maySit 36 = .ok (.iconst 1, 1) := dq_4 (hz_wg wX4_maySit_0 (j := 36) (n := 4) rfl)
theorem dX4_maySit_37 : decode cX4_maySit 37 = .ok (.goto 4, 3) := dq_167 (hz_wg wX4_maySit_0 (j := 37) (n := 167) rfl) (hz_wg wX4_maySit_0 (j := 38) (n := 0) rfl) (hz_wg wX4_maySit_0 (j := 39) (n := 4) rfl) (by decide)
theorem dX4_maySit_40 : decode cX4_maySit 40 = .ok (.iconst 0, 1) := dq_3 (hz_wg wX4_maySit_0 (j := 40) (n := 3) rfl)
theorem dX4_maySit_41 : decode cX4_maySit 41 = .ok (.ireturn, 1) := dq_172 (hz_wg wX4_maySit_0 (j := 41) (n := 172) rfl)
def wLX9_inForce_0 : List Nat := [42, 180, 0, 25, 77, 3, 62, 29, 42, 180, 0, 105, 162, 0, 45, 42, 180, 0, 29, 29, 50, 180, 0, 122, 27, 163, 0, 26, 42, 180, 0, 29, 29, 50, 180, 0, 122, 44, 180, 0, 122, 161, 0, 10, 42, 180, 0, 29, 29, 50, 77, 132, 3, 1, 167, 255, 209, 44, 176]
theorem wX9_inForce_0 : (cX9_inForce.data.toList.map UInt8.toNat).drop 0 = wLX9_inForce_0 ++ ([]) := by decide +kernel
theorem dX9_inForce_0 : decode cX9_inForce 0 = .ok (.aload_n 0, 1) := dq_42 (hz_wg wX9_inForce_0 (j := 0) (n := 42) rfl)
theorem dX9_inForce_1 : decode cX9_inForce 1 = .ok (.getfield 25, 3) := dq_180 (hz_wg wX9_inForce_0 (j := 1) (n := 180) rfl) (hz_wg wX9_inForce_0 (j := 2) (n := 0) rfl) (hz_wg wX9_inForce_0 (j := 3) (n := 25) rfl) rfl
theorem dX9_inForce_4 : decode cX9_inForce 4 = .ok (.astore_n 2, 1) := dq_77 (hz_wg wX9_inForce_0 (j := 4) (n := 77) rfl)
theorem dX9_inForce_5 : decode cX9_inForce 5 = .ok (.iconst 0, 1) := dq_3 (hz_wg wX9_inForce_0 (j := 5) (n := 3) rfl)
theorem dX9_inForce_6 : decode cX9_inForce 6 = .ok (.istore_n 3, 1) := dq_62 (hz_wg wX9_inForce_0 (j := 6) (n := 62) rfl)
theorem dX9_inForce_7 : decode cX9_inForce 7 = .ok (.iload_n 3, 1) := dq_29 (hz_wg wX9_inForce_0 (j := 7) (n := 29) rfl)
theorem dX9_inForce_8 : decode cX9_inForce 8 = .ok (.aload_n 0, 1) := dq_42 (hz_wg wX9_inForce_0 (j := 8) (n := 42) rfl)
theorem dX9_inForce_9 : decode cX9_inForce 9 = .ok (.getfield 105, 3) := dq_180 (hz_wg wX9_inForce_0 (j := 9) (n := 180) rfl) (hz_wg wX9_inForce_0 (j := 10) (n := 0) rfl) (hz_wg wX9_inForce_0 (j := 11) (n := 105) rfl) rfl
theorem dX9_inForce_12 : decode cX9_inForce 12 = .ok (.if_icmp .ge 45, 3) := dq_162 (hz_wg wX9_inForce_0 (j := 12) (n := 162) rfl) (hz_wg wX9_inForce_0 (j := 13) (n := 0) rfl) (hz_wg wX9_inForce_0 (j := 14) (n := 45) rfl) (by decide)
theorem dX9_inForce_15 : decode cX9_inForce 15 = .ok (.aload_n 0, 1) := dq_42 (hz_wg wX9_inForce_0 (j := 15) (n := 42) rfl)
theorem dX9_inForce_16 : decode cX9_inForce 16 = .ok (.getfield 29, 3) := dq_180 (hz_wg wX9_inForce_0 (j := 16) (n := 180) rfl) (hz_wg wX9_inForce_0 (j := 17) (n := 0) rfl) (hz_wg wX9_inForce_0 (j := 18) (n := 29) rfl) rfl
theorem dX9_inForce_19 : decode cX9_inForce 19 = .ok (.iload_n 3, 1) := dq_29 (hz_wg wX9_inForce_0 (j := 19) (n := 29) rfl)
theorem dX9_inForce_20 : decode cX9_inForce 20 = .ok (.aaload, 1) := dq_50 (hz_wg wX9_inForce_0 (j := 20) (n := 50) rfl)
theorem dX9_inForce_21 : decode cX9_inForce 21 = .ok (.getfield 122, 3) := dq_180 (hz_wg wX9_inForce_0 (j := 21) (n := 180) rfl) (hz_wg wX9_inForce_0 (j := 22) (n := 0) rfl) (hz_wg wX9_inForce_0 (j := 23) (n := 122) rfl) rfl
theorem dX9_inForce_24 : decode cX9_inForce 24 = .ok (.iload_n 1, 1) := dq_27 (hz_wg wX9_inForce_0 (j := 24) (n := 27) rfl)
theorem dX9_inForce_25 : decode cX9_inForce 25 = .ok (.if_icmp .gt 26, 3) := dq_163 (hz_wg wX9_inForce_0 (j := 25) (n := 163) rfl) (hz_wg wX9_inForce_0 (j := 26) (n := 0) rfl) (hz_wg wX9_inForce_0 (j := 27) (n := 26) rfl) (by decide)
theorem dX9_inForce_28 : decode cX9_inForce 28 = .ok (.aload_n 0, 1) := dq_42 (hz_wg wX9_inForce_0 (j := 28) (n := 42) rfl)
theorem dX9_inForce_29 : decode cX9_inForce 29 = .ok (.getfield 29, 3) := dq_180 (hz_wg wX9_inForce_0 (j := 29) (n := 180) rfl) (hz_wg wX9_inForce_0 (j := 30) (n := 0) rfl) (hz_wg wX9_inForce_0 (j := 31) (n := 29) rfl) rfl
theorem dX9_inForce_32 : decode cX9_inForce 32 = .ok (.iload_n 3, 1) := dq_29 (hz_wg wX9_inForce_0 (j := 32) (n := 29) rfl)
theorem dX9_inForce_33 : decode cX9_inForce 33 = .ok (.aaload, 1) := dq_50 (hz_wg wX9_inForce_0 (j := 33) (n := 50) rfl)
theorem dX9_inForce_34 : decode cX9_inForce 34 = .ok (.getfield 122, 3) := dq_180 (hz_wg wX9_inForce_0 (j := 34) (n := 180) rfl) (hz_wg wX9_inForce_0 (j := 35) (n := 0) rfl) (hz_wg wX9_inForce_0 (j := 36) (n := 122) rfl) rfl
theorem dX9_inForce_37 : decode cX9_inForce 37 = .ok (.aload_n 2, 1) := dq_44 (hz_wg wX9_inForce_0 (j := 37) (n := 44) rfl)
theorem dX9_inForce_38 : decode cX9_inForce 38 = .ok (.getfield 122, 3) := dq_180 (hz_wg wX9_inForce_0 (j := 38) (n := 180) rfl) (hz_wg wX9_inForce_0 (j := 39) (n := 0) rfl) (hz_wg wX9_inForce_0 (j := 40) (n := 122) rfl) rfl
theorem dX9_inForce_41 : decode cX9_inForce 41 = .ok (.if_icmp .lt 10, 3) := dq_161 (hz_wg wX9_inForce_0 (j := 41) (n := 161) rfl) (hz_wg wX9_inForce_0 (j := 42) (n := 0) rfl) (hz_wg wX9_inForce_0 (j := 43) (n := 10) rfl) (by decide)
theorem dX9_inForce_44 : decode cX9_inForce 44 = .ok (.aload_n 0, 1) := dq_42 (hz_wg wX9_inForce_0 (j := 44) (n := 42) rfl)
theorem dX9_inForce_45 : decode cX9_inForce 45 = .ok (.getfield 29, 3) := dq_180 (hz_wg wX9_inForce_0 (j := 45) (n := 180) rfl) (hz_wg wX9_inForce_0 (j := 46) (n := 0) rfl) (hz_wg wX9_inForce_0 (j := 47) (n := 29) rfl) rfl
theorem dX9_inForce_48 : decode cX9_inForce 48 = .ok (.iload_n 3, 1) := dq_29 (hz_wg wX9_inForce_0 (j := 48) (n := 29) rfl)
theorem dX9_inForce_49 : decode cX9_inForce 49 = .ok (.aaload, 1) := dq_50 (hz_wg wX9_inForce_0 (j := 49) (n := 50) rfl)
theorem dX9_inForce_50 : decode cX9_inForce 50 = .ok (.astore_n 2, 1) := dq_77 (hz_wg wX9_inForce_0 (j := 50) (n := 77) rfl)
theorem dX9_inForce_51 : decode cX9_inForce 51 = .ok (.iinc 3 1, 3) := dq_132 (hz_wg wX9_inForce_0 (j := 51) (n := 132) rfl) (hz_wg wX9_inForce_0 (j := 52) (n := 3) rfl) (hz_wg wX9_inForce_0 (j := 53) (n := 1) rfl) (by decide)
theorem dX9_inForce_54 : decode cX9_inForce 54 = .ok (.goto (-47), 3) := dq_167 (hz_wg wX9_inForce_0 (j := 54) (n := 167) rfl) (hz_wg wX9_inForce_0 (j := 55) (n := 255) rfl) (hz_wg wX9_inForce_0 (j := 56) (n := 209) rfl) (by decide)
theorem dX9_inForce_57 : decode cX9_inForce 57 = .ok (.aload_n 2, 1) := dq_44 (hz_wg wX9_inForce_0 (j := 57) (n := 44) rfl)
theorem dX9_inForce_58 : decode cX9_inForce 58 = .ok (.areturn, 1) := dq_176 (hz_wg wX9_inForce_0 (j := 58) (n := 176) rfl)
set_option maxHeartbeats 4000000 in
set_option maxRecDepth 100000 in
theorem t_X9_inForce (l : Launch) (dC : Nat → ClassId) (dI : Nat → Nat → Nat) (dA : Nat → ClassId) (L : List Nat) (h : hx_h) (sz : Nat) (x : Nat) (i1 : Int32) (hT : hx_T T_tb L h) (gx : hx_g L h x 9) (qa : Nat) (gqa : hx_g L h qa 43) (f_x_5 : h.2.2 x 5 = some qa) (pf_x_6 : ∀ j : Nat, (j : Int) < (h.2.1 x 6).toInt → h.2.2 qa j ≠ none) : Met l yX9_inForce (Cond.code yX9_inForce cX9_inForce 4 (some (.object "SmallCourt$Act")) :: hx_all) ({ frames := 0, cells := 0, slots := 0, locals := 0 }) (va_Pc [.ref x, .int i1] (hx_B T_tb (P_ty dA) (dC, dI) vwCl L h sz)) (va_Qq (fun (r : Option Nat) (u : List Nat × hx_h) => ((∃ q, r = some q ∧ hx_g u.1 u.2 q 0)) ∧ hx_T T_tb u.1 u.2 ∧ hx_S T_tb [] L h u.1 u.2) (hx_E T_tb (P_ty dA) (dC, dI) vwCl (hx_A L sz)) (hx_A L sz)) 0 0 (hx_A L sz) := by
  refine hx_met (lv := [(0, .ref x), (1, .int i1)]) (by decide +kernel) rfl (Nat.le_of_ble_eq_true rfl) rfl ?_
  intro p e s m below meth c hx hb hml hr hlk hts0 hown hin hsz hW ls hl
  have hts : ∀ w ∈ hx_all, w.before _ s = true := fun w hw => hts0 w (List.mem_cons_of_mem _ hw)
  have hown : s.vm.findClass "SmallCourt" = some m.cls := hown
  have hM : hx_S T_tb [] L h L h := hx_S.rf
  refine lv_aload_n hx hb dX9_inForce_0 rfl (lv_at hl 0 rfl) ?_
  refine hx_getn hx hb hts hC_9 hown hW hT gx tt_9 4 (by decide) rfl kw_368 ⟨rfl, rfl, rfl⟩ dX9_inForce_1 (fun q_1 fq_1 gq_1 => ?_)
  refine lv_astore_n (lv' := [(2, .ref q_1), (0, .ref x), (1, .int i1)]) hx hb dX9_inForce_4 rfl hl (by decide) rfl (fun ls hl => ?_)
  refine lv_iconst (v := 0) hx hb dX9_inForce_5 (by decide) ?_
  refine lv_istore_n (lv' := [(3, .int (0 : Int32)), (2, .ref q_1), (0, .ref x), (1, .int i1)]) hx hb dX9_inForce_6 rfl hl (by decide) rfl (fun ls hl => ?_)
  have loop7 : ∀ (n7 : Nat) (iv7_3 : Int32) (iv7_2 : Nat) (H : Heap) (locs : List Loc) (hL1 : List Nat) (hl1 : hx_h), 0 ≤ iv7_3.toInt → iv7_3.toInt ≤ 8 → ∀ (ls : Array Slot), 8 - iv7_3.toInt < (n7 : Int) → hx_W T_tb (P_ty dA) (dC, dI) vwCl (hx_A L sz) s.heap hL1 hl1 s H locs → hx_T T_tb hL1 hl1 → hx_S T_tb [] L h hL1 hl1 → hl1.2.2 x 5 = some qa → hl1.2.2 x 4 = some q_1 → hx_g hL1 hl1 iv7_2 0 → hx_g hL1 hl1 x 9 → hx_g hL1 hl1 qa 43 → hx_g hL1 hl1 q_1 0 → (∀ j : Nat, (j : Int) < (hl1.2.1 x 6).toInt → hl1.2.2 qa j ≠ none) → lv_has ls 4 [(3, .int iv7_3), (2, .ref iv7_2), (0, .ref x), (1, .int i1)] → W p l e ({ frames := 0, cells := 0, slots := 0, locals := 0 }) s m ([.ref x, .int i1] : List Value).toArray below meth c H locs 0 0 (MQ below (va_Qq (fun (r : Option Nat) (u : List Nat × hx_h) => ((∃ q, r = some q ∧ hx_g u.1 u.2 q 0)) ∧ hx_T T_tb u.1 u.2 ∧ hx_S T_tb [] L h u.1 u.2) (hx_E T_tb (P_ty dA) (dC, dI) vwCl (hx_A L sz)) (hx_A L sz)) ([.ref x, .int i1] : List Value).toArray s 0 0 (hx_A L sz)) (F0 m 7 ls []) := by
    intro n7
    induction n7 with
    | zero => intro iv7_3 iv7_2 H locs hL1 hl1 bliv7_3 buiv7_3  ls hn7; exfalso; omega
    | succ n7 ih7 =>
      intro iv7_3 iv7_2 H locs hL1 hl1 bliv7_3 buiv7_3  ls hn7 hW hT hM f_x_5 fq_1 giv7_2 gx gqa gq_1 pf_x_6 hl
      refine lv_iload_n hx hb dX9_inForce_7 rfl (lv_at hl 0 rfl) ?_
      refine lv_aload_n hx hb dX9_inForce_8 rfl (lv_at hl 2 rfl) ?_
      refine hx_geti hx hb hts hC_9 hown hW hT gx tt_9 6 (by decide) rfl kw_370 ⟨rfl, rfl, rfl⟩ dX9_inForce_9 (fun x_2 ex_2 lx_2 ux_2 => ?_)
      have fx_2 := ex_2.symm
      refine hb_icmp_ge (zx := iv7_3.toInt) (zy := x_2.toInt) (tgt := 57) hx hb rfl rfl dX9_inForce_12 (by decide) (fun c_3 => ?_) (fun c_3 => ?_)
      · skip
        refine lv_aload_n hx hb dX9_inForce_57 rfl (lv_at hl 1 rfl) ?_
        exact hx_retq (v := (some iv7_2)) hx hb hr (Or.inl ⟨_, rfl⟩) hlk hW ⟨⟨_, rfl, giv7_2⟩, hT, hM⟩ dX9_inForce_58
      · skip
        refine lv_aload_n hx hb dX9_inForce_15 rfl (lv_at hl 2 rfl) ?_
        refine hk_getr hx hb hts hC_9 hown hW gx tt_9 5 (by decide) rfl kw_369 ⟨rfl, rfl, rfl⟩ f_x_5 dX9_inForce_16 ?_
        refine lv_iload_n hx hb dX9_inForce_19 rfl (lv_at hl 0 rfl) ?_
        refine hx_aaldN hx hb hW hT gqa tt_43 (t1 := 0) rfl ⟨by omega, by omega⟩ (pf_x_6 _ (by rw [fx_2]; exact hx_tnI (by omega) (by omega))) dX9_inForce_20 (fun q_4 fq_4 gq_4 => ?_)
        refine hx_geti hx hb hts hC_0 hown hW hT gq_4 tt_0 1 (by decide) rfl kw_165 ⟨rfl, rfl, rfl⟩ dX9_inForce_21 (fun x_5 ex_5 lx_5 ux_5 => ?_)
        have fx_5 := ex_5.symm
        refine lv_iload_n hx hb dX9_inForce_24 rfl (lv_at hl 3 rfl) ?_
        refine hb_icmp_gt (zx := x_5.toInt) (zy := i1.toInt) (tgt := 51) hx hb rfl rfl dX9_inForce_25 (by decide) (fun c_6 => ?_) (fun c_6 => ?_)
        · skip
          obtain ⟨x_7, ex_7⟩ : ∃ y : Int32, y = iv7_3 + Int32.ofInt 1 := ⟨_, rfl⟩
          have rg_8 := i32_r iv7_3
          have zx_7 : x_7.toInt = iv7_3.toInt + (1) := by rw [ex_7]; exact i32_add rfl (by decide) (by omega) (by omega)
          refine lv_iinc (v := x_7) (lv' := [(3, .int x_7), (2, .ref iv7_2), (0, .ref x), (1, .int i1)]) hx hb dX9_inForce_51 hl (k := 0) rfl ex_7.symm (by decide) rfl (fun ls hl => ?_)
          refine lv_goto (tgt := 7) hx hb dX9_inForce_54 (by decide) ?_
          exact ih7 x_7 iv7_2 _ _ hL1 hl1 (by omega) (by omega)  ls (by omega) hW hT hM f_x_5 fq_1 giv7_2 gx gqa gq_1 pf_x_6 (lv_sub hl [0, 1, 2, 3] rfl)
        · skip
          refine lv_aload_n hx hb dX9_inForce_28 rfl (lv_at hl 2 rfl) ?_
          refine hk_getr hx hb hts hC_9 hown hW gx tt_9 5 (by decide) rfl kw_369 ⟨rfl, rfl, rfl⟩ f_x_5 dX9_inForce_29 ?_
          refine lv_iload_n hx hb dX9_inForce_32 rfl (lv_at hl 0 rfl) ?_
          refine hx_aaldN hx hb hW hT gqa tt_43 (t1 := 0) rfl ⟨by omega, by omega⟩ (pf_x_6 _ (by rw [fx_2]; exact hx_tnI (by omega) (by omega))) dX9_inForce_33 (fun q_9 fq_9 gq_9 => ?_)
          refine hx_geti hx hb hts hC_0 hown hW hT gq_9 tt_0 1 (by decide) rfl kw_165 ⟨rfl, rfl, rfl⟩ dX9_inForce_34 (fun x_10 ex_10 lx_10 ux_10 => ?_)
          have fx_10 := ex_10.symm
          refine lv_aload_n hx hb dX9_inForce_37 rfl (lv_at hl 1 rfl) ?_
          refine hx_geti hx hb hts hC_0 hown hW hT giv7_2 tt_0 1 (by decide) rfl kw_165 ⟨rfl, rfl, rfl⟩ dX9_inForce_38 (fun x_11 ex_11 lx_11 ux_11 => ?_)
          have fx_11 := ex_11.symm
          refine hb_icmp_lt (zx := x_10.toInt) (zy := x_11.toInt) (tgt := 51) hx hb rfl rfl dX9_inForce_41 (by decide) (fun c_12 => ?_) (fun c_12 => ?_)
          · skip
            obtain ⟨x_13, ex_13⟩ : ∃ y : Int32, y = iv7_3 + Int32.ofInt 1 := ⟨_, rfl⟩
            have rg_14 := i32_r iv7_3
            have zx_13 : x_13.toInt = iv7_3.toInt + (1) := by rw [ex_13]; exact i32_add rfl (by decide) (by omega) (by omega)
            refine lv_iinc (v := x_13) (lv' := [(3, .int x_13), (2, .ref iv7_2), (0, .ref x), (1, .int i1)]) hx hb dX9_inForce_51 hl (k := 0) rfl ex_13.symm (by decide) rfl (fun ls hl => ?_)
            refine lv_goto (tgt := 7) hx hb dX9_inForce_54 (by decide) ?_
            exact ih7 x_13 iv7_2 _ _ hL1 hl1 (by omega) (by omega)  ls (by omega) hW hT hM f_x_5 fq_1 giv7_2 gx gqa gq_1 pf_x_6 (lv_sub hl [0, 1, 2, 3] rfl)
          · skip
            refine lv_aload_n hx hb dX9_inForce_44 rfl (lv_at hl 2 rfl) ?_
            refine hk_getr hx hb hts hC_9 hown hW gx tt_9 5 (by decide) rfl kw_369 ⟨rfl, rfl, rfl⟩ f_x_5 dX9_inForce_45 ?_
            refine lv_iload_n hx hb dX9_inForce_48 rfl (lv_at hl 0 rfl) ?_
            refine hx_aaldN hx hb hW hT gqa tt_43 (t1 := 0) rfl ⟨by omega, by omega⟩ (pf_x_6 _ (by rw [fx_2]; exact hx_tnI (by omega) (by omega))) dX9_inForce_49 (fun q_15 fq_15 gq_15 => ?_)
            refine lv_astore_n (lv' := [(2, .ref q_15), (3, .int iv7_3), (0, .ref x), (1, .int i1)]) hx hb dX9_inForce_50 rfl hl (by decide) rfl (fun ls hl => ?_)
            obtain ⟨x_16, ex_16⟩ : ∃ y : Int32, y = iv7_3 + Int32.ofInt 1 := ⟨_, rfl⟩
            have rg_17 := i32_r iv7_3
            have zx_16 : x_16.toInt = iv7_3.toInt + (1) := by rw [ex_16]; exact i32_add rfl (by decide) (by omega) (by omega)
            refine lv_iinc (v := x_16) (lv' := [(3, .int x_16), (2, .ref q_15), (0, .ref x), (1, .int i1)]) hx hb dX9_inForce_51 hl (k := 1) rfl ex_16.symm (by decide) rfl (fun ls hl => ?_)
            refine lv_goto (tgt := 7) hx hb dX9_inForce_54 (by decide) ?_
            exact ih7 x_16 q_15 _ _ hL1 hl1 (by omega) (by omega)  ls (by omega) hW hT hM f_x_5 fq_1 gq_15 gx gqa gq_1 pf_x_6 (lv_sub hl [0, 1, 2, 3] rfl)
  have zk_0 : (0 : Int32).toInt = 0 := by decide
  exact loop7 9 (0 : Int32) q_1 _ _ L h (by decide) (by decide)  ls (by omega) hW hT hM f_x_5 fq_1 gq_1 gx gqa gq_1 pf_x_6 hl

def wLX9_force_0 : List Nat := [27, 184, 0, 90, 153, 0, 13, 28, 155, 0, 9, 28, 16, 14, 161, 0, 5, 2, 172, 42, 27, 182, 0, 115, 78, 28, 154, 0, 10, 45, 180, 0, 112, 167, 0, 9, 45, 180, 0, 119, 28, 46, 172]
theorem wX9_force_0 : (cX9_force.data.toList.map UInt8.toNat).drop 0 = wLX9_force_0 ++ ([]) := by decide +kernel
theorem dX9_force_0 : decode cX9_force 0 = .ok (.iload_n 1, 1) := dq_27 (hz_wg wX9_force_0 (j := 0) (n := 27) rfl)
theorem dX9_force_1 : decode cX9_force 1 = .ok (.invokestatic 90, 3) := dq_184 (hz_wg wX9_force_0 (j := 1) (n := 184) rfl) (hz_wg wX9_force_0 (j := 2) (n := 0) rfl) (hz_wg wX9_force_0 (j := 3) (n := 90) rfl) rfl
theorem dX9_force_4 : decode cX9_force 4 = .ok (.ifCond .eq 13, 3) := dq_153 (hz_wg wX9_force_0 (j := 4) (n := 153) rfl) (hz_wg wX9_force_0 (j := 5) (n := 0) rfl) (hz_wg wX9_force_0 (j := 6) (n := 13) rfl) (by decide)
theorem dX9_force_7 : decode cX9_force 7 = .ok (.iload_n 2, 1) := dq_28 (hz_wg wX9_force_0 (j := 7) (n := 28) rfl)
theorem dX9_force_8 : decode cX9_force 8 = .ok (.ifCond .lt 9, 3) := dq_155 (hz_wg wX9_force_0 (j := 8) (n := 155) rfl) (hz_wg wX9_force_0 (j := 9) (n := 0) rfl) (hz_wg wX9_force_0 (j := 10) (n := 9) rfl) (by decide)
theorem dX9_force_11 : decode cX9_force 11 = .ok (.iload_n 2, 1) := dq_28 (hz_wg wX9_force_0 (j := 11) (n := 28) rfl)
theorem dX9_force_12 : decode cX9_force 12 = .ok (.bipush 14, 2) := dq_16 (hz_wg wX9_force_0 (j := 12) (n := 16) rfl) (hz_wg wX9_force_0 (j := 13) (n := 14) rfl) (by decide)
theorem dX9_force_14 : decode cX9_force 14 = .ok (.if_icmp .lt 5, 3) := dq_161 (hz_wg wX9_force_0 (j := 14) (n := 161) rfl) (hz_wg wX9_force_0 (j := 15) (n := 0) rfl) (hz_wg wX9_force_0 (j := 16) (n := 5) rfl) (by decide)
theorem dX9_force_17 : decode cX9_force 17 = .ok (.iconst (-1), 1) := dq_2 (hz_wg wX9_force_0 (j := 17) (n := 2) rfl)
theorem dX9_force_18 : decode cX9_force 18 = .ok (.ireturn, 1) := dq_172 (hz_wg wX9_force_0 (j := 18) (n := 172) rfl)
theorem dX9_force_19 : decode cX9_force 19 = .ok (.aload_n 0, 1) := dq_42 (hz_wg wX9_force_0 (j := 19) (n := 42) rfl)
theorem dX9_force_20 : decode cX9_force 20 = .ok (.iload_n 1, 1) := dq_27 (hz_wg wX9_force_0 (j := 20) (n := 27) rfl)
theorem dX9_force_21 : decode cX9_force 21 = .ok (.invokevirtual 115, 3) := dq_182 (hz_wg wX9_force_0 (j := 21) (n := 182) rfl) (hz_wg wX9_force_0 (j := 22) (n := 0) rfl) (hz_wg wX9_force_0 (j := 23) (n := 115) rfl) rfl
theorem dX9_force_24 : decode cX9_force 24 = .ok (.astore_n 3, 1) := dq_78 (hz_wg wX9_force_0 (j := 24) (n := 78) rfl)
theorem dX9_force_25 : decode cX9_force 25 = .ok (.iload_n 2, 1) := dq_28 (hz_wg wX9_force_0 (j := 25) (n := 28) rfl)
theorem dX9_force_26 : decode cX9_force 26 = .ok (.ifCond .ne 10, 3) := dq_154 (hz_wg wX9_force_0 (j := 26) (n := 154) rfl) (hz_wg wX9_force_0 (j := 27) (n := 0) rfl) (hz_wg wX9_force_0 (j := 28) (n := 10) rfl) (by decide)
theorem dX9_force_29 : decode cX9_force 29 = .ok (.aload_n 3, 1) := dq_45 (hz_wg wX9_force_0 (j := 29) (n := 45) rfl)
theorem dX9_force_30 : decode cX9_force 30 = .ok (.getfield 112, 3) := dq_180 (hz_wg wX9_force_0 (j := 30) (n := 180) rfl) (hz_wg wX9_force_0 (j := 31) (n := 0) rfl) (hz_wg wX9_force_0 (j := 32) (n := 112) rfl) rfl
theorem dX9_force_33 : decode cX9_force 33 = .ok (.goto 9, 3) := dq_167 (hz_wg wX9_force_0 (j := 33) (n := 167) rfl) (hz_wg wX9_force_0 (j := 34) (n := 0) rfl) (hz_wg wX9_force_0 (j := 35) (n := 9) rfl) (by decide)
theorem dX9_force_36 : decode cX9_force 36 = .ok (.aload_n 3, 1) := dq_45 (hz_wg wX9_force_0 (j := 36) (n := 45) rfl)
theorem dX9_force_37 : decode cX9_force 37 = .ok (.getfield 119, 3) := dq_180 (hz_wg wX9_force_0 (j := 37) (n := 180) rfl) (hz_wg wX9_force_0 (j := 38) (n := 0) rfl) (hz_wg wX9_force_0 (j := 39) (n := 119) rfl) rfl
theorem dX9_force_40 : decode cX9_force 40 = .ok (.iload_n 2, 1) := dq_28 (hz_wg wX9_force_0 (j := 40) (n := 28) rfl)
theorem dX9_force_41 : decode cX9_force 41 = .ok (.iaload, 1) := dq_46 (hz_wg wX9_force_0 (j := 41) (n := 46) rfl)
theorem dX9_force_42 : decode cX9_force 42 = .ok (.ireturn, 1) := dq_172 (hz_wg wX9_force_0 (j := 42) (n := 172) rfl)
def wLX9_judgement_0 : List Nat := [43, 180, 0, 190, 43, 180, 0, 212, 180, 0, 243, 17, 1, 109, 44, 180, 0, 119, 16, 9, 46, 104, 96, 162, 0, 5, 4, 172, 43, 180, 0, 187, 44, 180, 0, 119, 4, 46, 164, 0, 5, 5, 172, 42, 43, 44, 182, 0, 246, 44, 180, 0, 119, 4, 46, 164, 0, 5, 6, 172, 44, 43, 180, 0]
def wLX9_judgement_1 : List Nat := [196, 182, 0, 249, 153, 0, 7, 8, 167, 0, 4, 7, 172]
theorem wX9_judgement_0 : (cX9_judgement.data.toList.map UInt8.toNat).drop 0 = wLX9_judgement_0 ++ (wLX9_judgement_1 ++ ([])) := by decide +kernel
theorem wX9_judgement_1 : (cX9_judgement.data.toList.map UInt8.toNat).drop 64 = wLX9_judgement_1 ++ ([]) := hz_wn wX9_judgement_0 rfl
theorem dX9_judgement_0 : decode cX9_judgement 0 = .ok (.aload_n 1, 1) := dq_43 (hz_wg wX9_judgement_0 (j := 0) (n := 43) rfl)
theorem dX9_judgement_1 : decode cX9_judgement 1 = .ok (.getfield 190, 3) := dq_180 (hz_wg wX9_judgement_0 (j := 1) (n := 180) rfl) (hz_wg wX9_judgement_0 (j := 2) (n := 0) rfl) (hz_wg wX9_judgement_0 (j := 3) (n := 190) rfl) rfl
theorem dX9_judgement_4 : decode cX9_judgement 4 = .ok (.aload_n 1, 1) := dq_43 (hz_wg wX9_judgement_0 (j := 4) (n := 43) rfl)
theorem dX9_judgement_5 : decode cX9_judgement 5 = .ok (.getfield 212, 3) := dq_180 (hz_wg wX9_judgement_0 (j := 5) (n := 180) rfl) (hz_wg wX9_judgement_0 (j := 6) (n := 0) rfl) (hz_wg wX9_judgement_0 (j := 7) (n := 212) rfl) rfl
theorem dX9_judgement_8 : decode cX9_judgement 8 = .ok (.getfield 243, 3) := dq_180 (hz_wg wX9_judgement_0 (j := 8) (n := 180) rfl) (hz_wg wX9_judgement_0 (j := 9) (n := 0) rfl) (hz_wg wX9_judgement_0 (j := 10) (n := 243) rfl) rfl
theorem dX9_judgement_11 : decode cX9_judgement 11 = .ok (.sipush 365, 3) := dq_17 (hz_wg wX9_judgement_0 (j := 11) (n := 17) rfl) (hz_wg wX9_judgement_0 (j := 12) (n := 1) rfl) (hz_wg wX9_judgement_0 (j := 13) (n := 109) rfl) (by decide)
theorem dX9_judgement_14 : decode cX9_judgement 14 = .ok (.aload_n 2, 1) := dq_44 (hz_wg wX9_judgement_0 (j := 14) (n := 44) rfl)
theorem dX9_judgement_15 : decode cX9_judgement 15 = .ok (.getfield 119, 3) := dq_180 (hz_wg wX9_judgement_0 (j := 15) (n := 180) rfl) (hz_wg wX9_judgement_0 (j := 16) (n := 0) rfl) (hz_wg wX9_judgement_0 (j := 17) (n := 119) rfl) rfl
theorem dX9_judgement_18 : decode cX9_judgement 18 = .ok (.bipush 9, 2) := dq_16 (hz_wg wX9_judgement_0 (j := 18) (n := 16) rfl) (hz_wg wX9_judgement_0 (j := 19) (n := 9) rfl) (by decide)
theorem dX9_judgement_20 : decode cX9_judgement 20 = .ok (.iaload, 1) := dq_46 (hz_wg wX9_judgement_0 (j := 20) (n := 46) rfl)
theorem dX9_judgement_21 : decode cX9_judgement 21 = .ok (.imul, 1) := dq_104 (hz_wg wX9_judgement_0 (j := 21) (n := 104) rfl)
theorem dX9_judgement_22 : decode cX9_judgement 22 = .ok (.iadd, 1) := dq_96 (hz_wg wX9_judgement_0 (j := 22) (n := 96) rfl)
theorem dX9_judgement_23 : decode cX9_judgement 23 = .ok (.if_icmp .ge 5, 3) := dq_162 (hz_wg wX9_judgement_0 (j := 23) (n := 162) rfl) (hz_wg wX9_judgement_0 (j := 24) (n := 0) rfl) (hz_wg wX9_judgement_0 (j := 25) (n := 5) rfl) (by decide)
theorem dX9_judgement_26 : decode cX9_judgement 26 = .ok (.iconst 1, 1) := dq_4 (hz_wg wX9_judgement_0 (j := 26) (n := 4) rfl)
theorem dX9_judgement_27 : decode cX9_judgement 27 = .ok (.ireturn, 1) := dq_172 (hz_wg wX9_judgement_0 (j := 27) (n := 172) rfl)
theorem dX9_judgement_28 : decode cX9_judgement 28 = .ok (.aload_n 1, 1) := dq_43 (hz_wg wX9_judgement_0 (j := 28) (n := 43) rfl)
theorem dX9_judgement_29 : decode cX9_judgement 29 = .ok (.getfield 187, 3) := dq_180 (hz_wg wX9_judgement_0 (j := 29) (n := 180) rfl) (hz_wg wX9_judgement_0 (j := 30) (n := 0) rfl) (hz_wg wX9_judgement_0 (j := 31) (n := 187) rfl) rfl
theorem dX9_judgement_32 : decode cX9_judgement 32 = .ok (.aload_n 2, 1) := dq_44 (hz_wg wX9_judgement_0 (j := 32) (n := 44) rfl)
theorem dX9_judgement_33 : decode cX9_judgement 33 = .ok (.getfield 119, 3) := dq_180 (hz_wg wX9_judgement_0 (j := 33) (n := 180) rfl) (hz_wg wX9_judgement_0 (j := 34) (n := 0) rfl) (hz_wg wX9_judgement_0 (j := 35) (n := 119) rfl) rfl
theorem dX9_judgement_36 : decode cX9_judgement 36 = .ok (.iconst 1, 1) := dq_4 (hz_wg wX9_judgement_0 (j := 36) (n := 4) rfl)
theorem dX9_judgement_37 : decode cX9_judgement 37 = .ok (.iaload, 1) := dq_46 (hz_wg wX9_judgement_0 (j := 37) (n := 46) rfl)
theorem dX9_judgement_38 : decode cX9_judgement 38 = .ok (.if_icmp .le 5, 3) := dq_164 (hz_wg wX9_judgement_0 (j := 38) (n := 164) rfl) (hz_wg wX9_judgement_0 (j := 39) (n := 0) rfl) (hz_wg wX9_judgement_0 (j := 40) (n := 5) rfl) (by decide)
theorem dX9_judgement_41 : decode cX9_judgement 41 = .ok (.iconst 2, 1) := dq_5 (hz_wg wX9_judgement_0 (j := 41) (n := 5) rfl)
theorem dX9_judgement_42 : decode cX9_judgement 42 = .ok (.ireturn, 1) := dq_172 (hz_wg wX9_judgement_0 (j := 42) (n := 172) rfl)
theorem dX9_judgement_43 : decode cX9_judgement 43 = .ok (.aload_n 0, 1) := dq_42 (hz_wg wX9_judgement_0 (j := 43) (n := 42) rfl)
theorem dX9_judgement_44 : decode cX9_judgement 44 = .ok (.aload_n 1, 1) := dq_43 (hz_wg wX9_judgement_0 (j := 44) (n := 43) rfl)
theorem dX9_judgement_45 : decode cX9_judgement 45 = .ok (.aload_n 2, 1) := dq_44 (hz_wg wX9_judgement_0 (j := 45) (n := 44) rfl)
theorem dX9_judgement_46 : decode cX9_judgement 46 = .ok (.invokevirtual 246, 3) := dq_182 (hz_wg wX9_judgement_0 (j := 46) (n := 182) rfl) (hz_wg wX9_judgement_0 (j := 47) (n := 0) rfl) (hz_wg wX9_judgement_0 (j := 48) (n := 246) rfl) rfl
theorem dX9_judgement_49 : decode cX9_judgement 49 = .ok (.aload_n 2, 1) := dq_44 (hz_wg wX9_judgement_0 (j := 49) (n := 44) rfl)
theorem dX9_judgement_50 : decode cX9_judgement 50 = .ok (.getfield 119, 3) := dq_180 (hz_wg wX9_judgement_0 (j := 50) (n := 180) rfl) (hz_wg wX9_judgement_0 (j := 51) (n := 0) rfl) (hz_wg wX9_judgement_0 (j := 52) (n := 119) rfl) rfl
theorem dX9_judgement_53 : decode cX9_judgement 53 = .ok (.iconst 1, 1) := dq_4 (hz_wg wX9_judgement_0 (j := 53) (n := 4) rfl)
theorem dX9_judgement_54 : decode cX9_judgement 54 = .ok (.iaload, 1) := dq_46 (hz_wg wX9_judgement_0 (j := 54) (n := 46) rfl)
theorem dX9_judgement_55 : decode cX9_judgement 55 = .ok (.if_icmp .le 5, 3) := dq_164 (hz_wg wX9_judgement_0 (j := 55) (n := 164) rfl) (hz_wg wX9_judgement_0 (j := 56) (n := 0) rfl) (hz_wg wX9_judgement_0 (j := 57) (n := 5) rfl) (by decide)
theorem dX9_judgement_58 : decode cX9_judgement 58 = .ok (.iconst 3, 1) := dq_6 (hz_wg wX9_judgement_0 (j := 58) (n := 6) rfl)
theorem dX9_judgement_59 : decode cX9_judgement 59 = .ok (.ireturn, 1) := dq_172 (hz_wg wX9_judgement_0 (j := 59) (n := 172) rfl)
theorem dX9_judgement_60 : decode cX9_judgement 60 = .ok (.aload_n 2, 1) := dq_44 (hz_wg wX9_judgement_0 (j := 60) (n := 44) rfl)
theorem dX9_judgement_61 : decode cX9_judgement 61 = .ok (.aload_n 1, 1) := dq_43 (hz_wg wX9_judgement_0 (j := 61) (n := 43) rfl)
theorem dX9_judgement_62 : decode cX9_judgement 62 = .ok (.getfield 196, 3) := dq_180 (hz_wg wX9_judgement_0 (j := 62) (n := 180) rfl) (hz_wg wX9_judgement_0 (j := 63) (n := 0) rfl) (hz_wg wX9_judgement_1 (j := 0) (n := 196) rfl) rfl
theorem dX9_judgement_65 : decode cX9_judgement 65 = .ok (.invokevirtual 249, 3) := dq_182 (hz_wg wX9_judgement_1 (j := 1) (n := 182) rfl) (hz_wg wX9_judgement_1 (j := 2) (n := 0) rfl) (hz_wg wX9_judgement_1 (j := 3) (n := 249) rfl) rfl
theorem dX9_judgement_68 : decode cX9_judgement 68 = .ok (.ifCond .eq 7, 3) := dq_153 (hz_wg wX9_judgement_1 (j := 4) (n := 153) rfl) (hz_wg wX9_judgement_1 (j := 5) (n := 0) rfl) (hz_wg wX9_judgement_1 (j := 6) (n := 7) rfl) (by decide)
theorem dX9_judgement_71 : decode cX9_judgement 71 = .ok (.iconst 5, 1) := dq_8 (hz_wg wX9_judgement_1 (j := 7) (n := 8) rfl)
theorem dX9_judgement_72 : decode cX9_judgement 72 = .ok (.goto 4, 3) := dq_167 (hz_wg wX9_judgement_1 (j := 8) (n := 167) rfl) (hz_wg wX9_judgement_1 (j := 9) (n := 0) rfl) (hz_wg wX9_judgement_1 (j := 10) (n := 4) rfl) (by decide)
theorem dX9_judgement_75 : decode cX9_judgement 75 = .ok (.iconst 4, 1) := dq_7 (hz_wg wX9_judgement_1 (j := 11) (n := 7) rfl)
theorem dX9_judgement_76 : decode cX9_judgement 76 = .ok (.ireturn, 1) := dq_172 (hz_wg wX9_judgement_1 (j := 12) (n := 172) rfl)
def wLX9_drawBench_0 : List Nat := [3, 62, 3, 54, 4, 21, 4, 42, 180, 0, 125, 162, 0, 34, 42, 180, 0, 35, 21, 4, 50, 43, 182, 0, 236, 153, 0, 14, 42, 180, 0, 62, 29, 21, 4, 79, 132, 3, 1, 132, 4, 1, 167, 255, 219, 29, 29, 4, 100, 104, 29, 5, 100, 104, 16, 6, 108, 54, 4, 21, 4, 4, 162, 0]
def wLX9_drawBench_1 : List Nat := [5, 3, 172, 28, 21, 4, 112, 54, 5, 3, 54, 6, 21, 6, 29, 162, 0, 95, 21, 6, 4, 96, 54, 7, 21, 7, 29, 162, 0, 77, 29, 21, 7, 100, 4, 100, 54, 8, 21, 5, 21, 8, 162, 0, 49, 43, 180, 0, 240, 3, 42, 180, 0, 62, 21, 6, 46, 79, 43, 180, 0, 240, 4, 42]
def wLX9_drawBench_2 : List Nat := [180, 0, 62, 21, 7, 46, 79, 43, 180, 0, 240, 5, 42, 180, 0, 62, 21, 7, 4, 96, 21, 5, 96, 46, 79, 4, 172, 21, 5, 21, 8, 100, 54, 5, 132, 7, 1, 167, 255, 179, 132, 6, 1, 167, 255, 161, 3, 172]
theorem wX9_drawBench_0 : (cX9_drawBench.data.toList.map UInt8.toNat).drop 0 = wLX9_drawBench_0 ++ (wLX9_drawBench_1 ++ (wLX9_drawBench_2 ++ ([]))) := by decide +kernel
theorem wX9_drawBench_1 : (cX9_drawBench.data.toList.map UInt8.toNat).drop 64 = wLX9_drawBench_1 ++ (wLX9_drawBench_2 ++ ([])) := hz_wn wX9_drawBench_0 rfl
theorem wX9_drawBench_2 : (cX9_drawBench.data.toList.map UInt8.toNat).drop 128 = wLX9_drawBench_2 ++ ([]) := hz_wn wX9_drawBench_1 rfl
theorem dX9_drawBench_0 : decode cX9_drawBench 0 = .ok (.iconst 0, 1) := dq_3 (hz_wg wX9_drawBench_0 (j := 0) (n := 3) rfl)
theorem dX9_drawBench_1 : decode cX9_drawBench 1 = .ok (.istore_n 3, 1) := dq_62 (hz_wg wX9_drawBench_0 (j := 1) (n := 62) rfl)
theorem dX9_drawBench_2 : decode cX9_drawBench 2 = .ok (.iconst 0, 1) := dq_3 (hz_wg wX9_drawBench_0 (j := 2) (n := 3) rfl)
theorem dX9_drawBench_3 : decode cX9_drawBench 3 = .ok (.istore 4, 2) := dq_54 (hz_wg wX9_drawBench_0 (j := 3) (n := 54) rfl) (hz_wg wX9_drawBench_0 (j := 4) (n := 4) rfl)
theorem dX9_drawBench_5 : decode cX9_drawBench 5 = .ok (.iload 4, 2) := dq_21 (hz_wg wX9_drawBench_0 (j := 5) (n := 21) rfl) (hz_wg wX9_drawBench_0 (j := 6) (n := 4) rfl)
theorem dX9_drawBench_7 : decode cX9_drawBench 7 = .ok (.aload_n 0, 1) := dq_42 (hz_wg wX9_drawBench_0 (j := 7) (n := 42) rfl)
theorem dX9_drawBench_8 : decode cX9_drawBench 8 = .ok (.getfield 125, 3) := dq_180 (hz_wg wX9_drawBench_0 (j := 8) (n := 180) rfl) (hz_wg wX9_drawBench_0 (j := 9) (n := 0) rfl) (hz_wg wX9_drawBench_0 (j := 10) (n := 125) rfl) rfl
theorem dX9_drawBench_11 : decode cX9_drawBench 11 = .ok (.if_icmp .ge 34, 3) := dq_162 (hz_wg wX9_drawBench_0 (j := 11) (n := 162) rfl) (hz_wg wX9_drawBench_0 (j := 12) (n := 0) rfl) (hz_wg wX9_drawBench_0 (j := 13) (n := 34) rfl) (by decide)
theorem dX9_drawBench_14 : decode cX9_drawBench 14 = .ok (.aload_n 0, 1) := dq_42 (hz_wg wX9_drawBench_0 (j := 14) (n := 42) rfl)
theorem dX9_drawBench_15 : decode cX9_drawBench 15 = .ok (.getfield 35, 3) := dq_180 (hz_wg wX9_drawBench_0 (j := 15) (n := 180) rfl) (hz_wg wX9_drawBench_0 (j := 16) (n := 0) rfl) (hz_wg wX9_drawBench_0 (j := 17) (n := 35) rfl) rfl
theorem dX9_drawBench_18 : decode cX9_drawBench 18 = .ok (.iload 4, 2) := dq_21 (hz_wg wX9_drawBench_0 (j := 18) (n := 21) rfl) (hz_wg wX9_drawBench_0 (j := 19) (n := 4) rfl)
theorem dX9_drawBench_20 : decode cX9_drawBench 20 = .ok (.aaload, 1) := dq_50 (hz_wg wX9_drawBench_0 (j := 20) (n := 50) rfl)
theorem dX9_drawBench_21 : decode cX9_drawBench 21 = .ok (.aload_n 1, 1) := dq_43 (hz_wg wX9_drawBench_0 (j := 21) (n := 43) rfl)
theorem dX9_drawBench_22 : decode cX9_drawBench 22 = .ok (.invokevirtual 236, 3) := dq_182 (hz_wg wX9_drawBench_0 (j := 22) (n := 182) rfl) (hz_wg wX9_drawBench_0 (j := 23) (n := 0) rfl) (hz_wg wX9_drawBench_0 (j := 24) (n := 236) rfl) rfl
theorem dX9_drawBench_25 : decode cX9_drawBench 25 = .ok (.ifCond .eq 14, 3) := dq_153 (hz_wg wX9_drawBench_0 (j := 25) (n := 153) rfl) (hz_wg wX9_drawBench_0 (j := 26) (n := 0) rfl) (hz_wg wX9_drawBench_0 (j := 27) (n := 14) rfl) (by decide)
theorem dX9_drawBench_28 : decode cX9_drawBench 28 = .ok (.aload_n 0, 1) := dq_42 (hz_wg wX9_drawBench_0 (j := 28) (n := 42) rfl)
theorem dX9_drawBench_29 : decode cX9_drawBench 29 = .ok (.getfield 62, 3) := dq_180 (hz_wg wX9_drawBench_0 (j := 29) (n := 180) rfl) (hz_wg wX9_drawBench_0 (j := 30) (n := 0) rfl) (hz_wg wX9_drawBench_0 (j := 31) (n := 62) rfl) rfl
theorem dX9_drawBench_32 : decode cX9_drawBench 32 = .ok (.iload_n 3, 1) := dq_29 (hz_wg wX9_drawBench_0 (j := 32) (n := 29) rfl)
theorem dX9_drawBench_33 : decode cX9_drawBench 33 = .ok (.iload 4, 2) := dq_21 (hz_wg wX9_drawBench_0 (j := 33) (n := 21) rfl) (hz_wg wX9_drawBench_0 (j := 34) (n := 4) rfl)
theorem dX9_drawBench_35 : decode cX9_drawBench 35 = .ok (.iastore, 1) := dq_79 (hz_wg wX9_drawBench_0 (j := 35) (n := 79) rfl)
theorem dX9_drawBench_36 : decode cX9_drawBench 36 = .ok (.iinc 3 1, 3) := dq_132 (hz_wg wX9_drawBench_0 (j := 36) (n := 132) rfl) (hz_wg wX9_drawBench_0 (j := 37) (n := 3) rfl) (hz_wg wX9_drawBench_0 (j := 38) (n := 1) rfl) (by decide)
theorem dX9_drawBench_39 : decode cX9_drawBench 39 = .ok (.iinc 4 1, 3) := dq_132 (hz_wg wX9_drawBench_0 (j := 39) (n := 132) rfl) (hz_wg wX9_drawBench_0 (j := 40) (n := 4) rfl) (hz_wg wX9_drawBench_0 (j := 41) (n := 1) rfl) (by decide)
theorem dX9_drawBench_42 : decode cX9_drawBench 42 = .ok (.goto (-37), 3) := dq_167 (hz_wg wX9_drawBench_0 (j := 42) (n := 167) rfl) (hz_wg wX9_drawBench_0 (j := 43) (n := 255) rfl) (hz_wg wX9_drawBench_0 (j := 44) (n := 219) rfl) (by decide)
theorem dX9_drawBench_45 : decode cX9_drawBench 45 = .ok (.iload_n 3, 1) := dq_29 (hz_wg wX9_drawBench_0 (j := 45) (n := 29) rfl)
theorem dX9_drawBench_46 : decode cX9_drawBench 46 = .ok (.iload_n 3, 1) := dq_29 (hz_wg wX9_drawBench_0 (j := 46) (n := 29) rfl)
theorem dX9_drawBench_47 : decode cX9_drawBench 47 = .ok (.iconst 1, 1) := dq_4 (hz_wg wX9_drawBench_0 (j := 47) (n := 4) rfl)
theorem dX9_drawBench_48 : decode cX9_drawBench 48 = .ok (.isub, 1) := dq_100 (hz_wg wX9_drawBench_0 (j := 48) (n := 100) rfl)
theorem dX9_drawBench_49 : decode cX9_drawBench 49 = .ok (.imul, 1) := dq_104 (hz_wg wX9_drawBench_0 (j := 49) (n := 104) rfl)
theorem dX9_drawBench_50 : decode cX9_drawBench 50 = .ok (.iload_n 3, 1) := dq_29 (hz_wg wX9_drawBench_0 (j := 50) (n := 29) rfl)
theorem dX9_drawBench_51 : decode cX9_drawBench 51 = .ok (.iconst 2, 1) := dq_5 (hz_wg wX9_drawBench_0 (j := 51) (n := 5) rfl)
theorem dX9_drawBench_52 : decode cX9_drawBench 52 = .ok (.isub, 1) := dq_100 (hz_wg wX9_drawBench_0 (j := 52) (n := 100) rfl)
theorem dX9_drawBench_53 : decode cX9_drawBench 53 = .ok (.imul, 1) := dq_104 (hz_wg wX9_drawBench_0 (j := 53) (n := 104) rfl)
theorem dX9_drawBench_54 : decode cX9_drawBench 54 = .ok (.bipush 6, 2) := dq_16 (hz_wg wX9_drawBench_0 (j := 54) (n := 16) rfl) (hz_wg wX9_drawBench_0 (j := 55) (n := 6) rfl) (by decide)
theorem dX9_drawBench_56 : decode cX9_drawBench 56 = .ok (.idiv, 1) := dq_108 (hz_wg wX9_drawBench_0 (j := 56) (n := 108) rfl)
theorem dX9_drawBench_57 : decode cX9_drawBench 57 = .ok (.istore 4, 2) := dq_54 (hz_wg wX9_drawBench_0 (j := 57) (n := 54) rfl) (hz_wg wX9_drawBench_0 (j := 58) (n := 4) rfl)
theorem dX9_drawBench_59 : decode cX9_drawBench 59 = .ok (.iload 4, 2) := dq_21 (hz_wg wX9_drawBench_0 (j := 59) (n := 21) rfl) (hz_wg wX9_drawBench_0 (j := 60) (n := 4) rfl)
theorem dX9_drawBench_61 : decode cX9_drawBench 61 = .ok (.iconst 1, 1) := dq_4 (hz_wg wX9_drawBench_0 (j := 61) (n := 4) rfl)
theorem dX9_drawBench_62 : decode cX9_drawBench 62 = .ok (.if_icmp .ge 5, 3) := dq_162 (hz_wg wX9_drawBench_0 (j := 62) (n := 162) rfl) (hz_wg wX9_drawBench_0 (j := 63) (n := 0) rfl) (hz_wg wX9_drawBench_1 (j := 0) (n := 5) rfl) (by decide)
theorem dX9_drawBench_65 : decode cX9_drawBench 65 = .ok (.iconst 0, 1) := dq_3 (hz_wg wX9_drawBench_1 (j := 1) (n := 3) rfl)
theorem dX9_drawBench_66 : decode cX9_drawBench 66 = .ok (.ireturn, 1) := dq_172 (hz_wg wX9_drawBench_1 (j := 2) (n := 172) rfl)
theorem dX9_drawBench_67 : decode cX9_drawBench 67 = .ok (.iload_n 2, 1) := dq_28 (hz_wg wX9_drawBench_1 (j := 3) (n := 28) rfl)
theorem dX9_drawBench_68 : decode cX9_drawBench 68 = .ok (.iload 4, 2) := dq_21 (hz_wg wX9_drawBench_1 (j := 4) (n := 21) rfl) (hz_wg wX9_drawBench_1 (j := 5) (n := 4) rfl)
theorem dX9_drawBench_70 : decode cX9_drawBench 70 = .ok (.irem, 1) := dq_112 (hz_wg wX9_drawBench_1 (j := 6) (n := 112) rfl)
theorem dX9_drawBench_71 : decode cX9_drawBench 71 = .ok (.istore 5, 2) := dq_54 (hz_wg wX9_drawBench_1 (j := 7) (n := 54) rfl) (hz_wg wX9_drawBench_1 (j := 8) (n := 5) rfl)
theorem dX9_drawBench_73 : decode cX9_drawBench 73 = .ok (.iconst 0, 1) := dq_3 (hz_wg wX9_drawBench_1 (j := 9) (n := 3) rfl)
theorem dX9_drawBench_74 : decode cX9_drawBench 74 = .ok (.istore 6, 2) := dq_54 (hz_wg wX9_drawBench_1 (j := 10) (n := 54) rfl) (hz_wg wX9_drawBench_1 (j := 11) (n := 6) rfl)
theorem dX9_drawBench_76 : decode cX9_drawBench 76 = .ok (.iload 6, 2) := dq_21 (hz_wg wX9_drawBench_1 (j := 12) (n := 21) rfl) (hz_wg wX9_drawBench_1 (j := 13) (n := 6) rfl)
theorem dX9_drawBench_78 : decode cX9_drawBench 78 = .ok (.iload_n 3, 1) := dq_29 (hz_wg wX9_drawBench_1 (j := 14) (n := 29) rfl)
theorem dX9_drawBench_79 : decode cX9_drawBench 79 = .ok (.if_icmp .ge 95, 3) := dq_162 (hz_wg wX9_drawBench_1 (j := 15) (n := 162) rfl) (hz_wg wX9_drawBench_1 (j := 16) (n := 0) rfl) (hz_wg wX9_drawBench_1 (j := 17) (n := 95) rfl) (by decide)
theorem dX9_drawBench_82 : decode cX9_drawBench 82 = .ok (.iload 6, 2) := dq_21 (hz_wg wX9_drawBench_1 (j := 18) (n := 21) rfl) (hz_wg wX9_drawBench_1 (j := 19) (n := 6) rfl)
theorem dX9_drawBench_84 : decode cX9_drawBench 84 = .ok (.iconst 1, 1) := dq_4 (hz_wg wX9_drawBench_1 (j := 20) (n := 4) rfl)
theorem dX9_drawBench_85 : decode cX9_drawBench 85 = .ok (.iadd, 1) := dq_96 (hz_wg wX9_drawBench_1 (j := 21) (n := 96) rfl)
theorem dX9_drawBench_86 : decode cX9_drawBench 86 = .ok (.istore 7, 2) := dq_54 (hz_wg wX9_drawBench_1 (j := 22) (n := 54) rfl) (hz_wg wX9_drawBench_1 (j := 23) (n := 7) rfl)
theorem dX9_drawBench_88 : decode cX9_drawBench 88 = .ok (.iload 7, 2) := dq_21 (hz_wg wX9_drawBench_1 (j := 24) (n := 21) rfl) (hz_wg wX9_drawBench_1 (j := 25) (n := 7) rfl)
theorem dX9_drawBench_90 : decode cX9_drawBench 90 = .ok (.iload_n 3, 1) := dq_29 (hz_wg wX9_drawBench_1 (j := 26) (n := 29) rfl)
theorem dX9_drawBench_91 : decode cX9_drawBench 91 = .ok (.if_icmp .ge 77, 3) := dq_162 (hz_wg wX9_drawBench_1 (j := 27) (n := 162) rfl) (hz_wg wX9_drawBench_1 (j := 28) (n := 0) rfl) (hz_wg wX9_drawBench_1 (j := 29) (n := 77) rfl) (by decide)
theorem dX9_drawBench_94 : decode cX9_drawBench 94 = .ok (.iload_n 3, 1) := dq_29 (hz_wg wX9_drawBench_1 (j := 30) (n := 29) rfl)
theorem dX9_drawBench_95 : decode cX9_drawBench 95 = .ok (.iload 7, 2) := dq_21 (hz_wg wX9_drawBench_1 (j := 31) (n := 21) rfl) (hz_wg wX9_drawBench_1 (j := 32) (n := 7) rfl)
theorem dX9_drawBench_97 : decode cX9_drawBench 97 = .ok (.isub, 1) := dq_100 (hz_wg wX9_drawBench_1 (j := 33) (n := 100) rfl)
theorem dX9_drawBench_98 : decode cX9_drawBench 98 = .ok (.iconst 1, 1) := dq_4 (hz_wg wX9_drawBench_1 (j := 34) (n := 4) rfl)
theorem dX9_drawBench_99 : decode cX9_drawBench 99 = .ok (.isub, 1) := dq_100 (hz_wg wX9_drawBench_1 (j := 35) (n := 100) rfl)
theorem dX9_drawBench_100 : decode cX9_drawBench 100 = .ok (.istore 8, 2) := dq_54 (hz_wg wX9_drawBench_1 (j := 36) (n := 54) rfl) (hz_wg wX9_drawBench_1 (j := 37) (n := 8) rfl)
theorem dX9_drawBench_102 : decode cX9_drawBench 102 = .ok (.iload 5, 2) := dq_21 (hz_wg wX9_drawBench_1 (j := 38) (n := 21) rfl) (hz_wg wX9_drawBench_1 (j := 39) (n := 5) rfl)
theorem dX9_drawBench_104 : decode cX9_drawBench 104 = .ok (.iload 8, 2) := dq_21 (hz_wg wX9_drawBench_1 (j := 40) (n := 21) rfl) (hz_wg wX9_drawBench_1 (j := 41) (n := 8) rfl)
theorem dX9_drawBench_106 : decode cX9_drawBench 106 = .ok (.if_icmp .ge 49, 3) := dq_162 (hz_wg wX9_drawBench_1 (j := 42) (n := 162) rfl) (hz_wg wX9_drawBench_1 (j := 43) (n := 0) rfl) (hz_wg wX9_drawBench_1 (j := 44) (n := 49) rfl) (by decide)
theorem dX9_drawBench_109 : decode cX9_drawBench 109 = .ok (.aload_n 1, 1) := dq_43 (hz_wg wX9_drawBench_1 (j := 45) (n := 43) rfl)
theorem dX9_drawBench_110 : decode cX9_drawBench 110 = .ok (.getfield 240, 3) := dq_180 (hz_wg wX9_drawBench_1 (j := 46) (n := 180) rfl) (hz_wg wX9_drawBench_1 (j := 47) (n := 0) rfl) (hz_wg wX9_drawBench_1 (j := 48) (n := 240) rfl) rfl
theorem dX9_drawBench_113 : decode cX9_drawBench 113 = .ok (.iconst 0, 1) := dq_3 (hz_wg wX9_drawBench_1 (j := 49) (n := 3) rfl)
theorem dX9_drawBench_114 : decode cX9_drawBench 114 = .ok (.aload_n 0, 1) := dq_42 (hz_wg wX9_drawBench_1 (j := 50) (n := 42) rfl)
theorem dX9_drawBench_115 : decode cX9_drawBench 115 = .ok (.getfield 62, 3) := dq_180 (hz_wg wX9_drawBench_1 (j := 51) (n := 180) rfl) (hz_wg wX9_drawBench_1 (j := 52) (n := 0) rfl) (hz_wg wX9_drawBench_1 (j := 53) (n := 62) rfl) rfl
theorem dX9_drawBench_118 : decode cX9_drawBench 118 = .ok (.iload 6, 2) := dq_21 (hz_wg wX9_drawBench_1 (j := 54) (n := 21) rfl) (hz_wg wX9_drawBench_1 (j := 55) (n := 6) rfl)
theorem dX9_drawBench_120 : decode cX9_drawBench 120 = .ok (.iaload, 1) := dq_46 (hz_wg wX9_drawBench_1 (j := 56) (n := 46) rfl)
theorem dX9_drawBench_121 : decode cX9_drawBench 121 = .ok (.iastore, 1) := dq_79 (hz_wg wX9_drawBench_1 (j := 57) (n := 79) rfl)
theorem dX9_drawBench_122 : decode cX9_drawBench 122 = .ok (.aload_n 1, 1) := dq_43 (hz_wg wX9_drawBench_1 (j := 58) (n := 43) rfl)
theorem dX9_drawBench_123 : decode cX9_drawBench 123 = .ok (.getfield 240, 3) := dq_180 (hz_wg wX9_drawBench_1 (j := 59) (n := 180) rfl) (hz_wg wX9_drawBench_1 (j := 60) (n := 0) rfl) (hz_wg wX9_drawBench_1 (j := 61) (n := 240) rfl) rfl
theorem dX9_drawBench_126 : decode cX9_drawBench 126 = .ok (.iconst 1, 1) := dq_4 (hz_wg wX9_drawBench_1 (j := 62) (n := 4) rfl)
theorem dX9_drawBench_127 : decode cX9_drawBench 127 = .ok (.aload_n 0, 1) := dq_42 (hz_wg wX9_drawBench_1 (j := 63) (n := 42) rfl)
theorem dX9_drawBench_128 : decode cX9_drawBench 128 = .ok (.getfield 62, 3) := dq_180 (hz_wg wX9_drawBench_2 (j := 0) (n := 180) rfl) (hz_wg wX9_drawBench_2 (j := 1) (n := 0) rfl) (hz_wg wX9_drawBench_2 (j := 2) (n := 62) rfl) rfl
theorem dX9_drawBench_131 : decode cX9_drawBench 131 = .ok (.iload 7, 2) := dq_21 (hz_wg wX9_drawBench_2 (j := 3) (n := 21) rfl) (hz_wg wX9_drawBench_2 (j := 4) (n := 7) rfl)
theorem dX9_drawBench_133 : decode cX9_drawBench 133 = .ok (.iaload, 1) := dq_46 (hz_wg wX9_drawBench_2 (j := 5) (n := 46) rfl)
theorem dX9_drawBench_134 : decode cX9_drawBench 134 = .ok (.iastore, 1) := dq_79 (hz_wg wX9_drawBench_2 (j := 6) (n := 79) rfl)
theorem dX9_drawBench_135 : decode cX9_drawBench 135 = .ok (.aload_n 1, 1) := dq_43 (hz_wg wX9_drawBench_2 (j := 7) (n := 43) rfl)
theorem dX9_drawBench_136 : decode cX9_drawBench 136 = .ok (.getfield 240, 3) := dq_180 (hz_wg wX9_drawBench_2 (j := 8) (n := 180) rfl) (hz_wg wX9_drawBench_2 (j := 9) (n := 0) rfl) (hz_wg wX9_drawBench_2 (j := 10) (n := 240) rfl) rfl
theorem dX9_drawBench_139 : decode cX9_drawBench 139 = .ok (.iconst 2, 1) := dq_5 (hz_wg wX9_drawBench_2 (j := 11) (n := 5) rfl)
theorem dX9_drawBench_140 : decode cX9_drawBench 140 = .ok (.aload_n 0, 1) := dq_42 (hz_wg wX9_drawBench_2 (j := 12) (n := 42) rfl)
theorem dX9_drawBench_141 : decode cX9_drawBench 141 = .ok (.getfield 62, 3) := dq_180 (hz_wg wX9_drawBench_2 (j := 13) (n := 180) rfl) (hz_wg wX9_drawBench_2 (j := 14) (n := 0) rfl) (hz_wg wX9_drawBench_2 (j := 15) (n := 62) rfl) rfl
theorem dX9_drawBench_144 : decode cX9_drawBench 144 = .ok (.iload 7, 2) := dq_21 (hz_wg wX9_drawBench_2 (j := 16) (n := 21) rfl) (hz_wg wX9_drawBench_2 (j := 17) (n := 7) rfl)
theorem dX9_drawBench_146 : decode cX9_drawBench 146 = .ok (.iconst 1, 1) := dq_4 (hz_wg wX9_drawBench_2 (j := 18) (n := 4) rfl)
theorem dX9_drawBench_147 : decode cX9_drawBench 147 = .ok (.iadd, 1) := dq_96 (hz_wg wX9_drawBench_2 (j := 19) (n := 96) rfl)
theorem dX9_drawBench_148 : decode cX9_drawBench 148 = .ok (.iload 5, 2) := dq_21 (hz_wg wX9_drawBench_2 (j := 20) (n := 21) rfl) (hz_wg wX9_drawBench_2 (j := 21) (n := 5) rfl)
theorem dX9_drawBench_150 : decode cX9_drawBench 150 = .ok (.iadd, 1) := dq_96 (hz_wg wX9_drawBench_2 (j := 22) (n := 96) rfl)
theorem dX9_drawBench_151 : decode cX9_drawBench 151 = .ok (.iaload, 1) := dq_46 (hz_wg wX9_drawBench_2 (j := 23) (n := 46) rfl)
theorem dX9_drawBench_152 : decode cX9_drawBench 152 = .ok (.iastore, 1) := dq_79 (hz_wg wX9_drawBench_2 (j := 24) (n := 79) rfl)
theorem dX9_drawBench_153 : decode cX9_drawBench 153 = .ok (.iconst 1, 1) := dq_4 (hz_wg wX9_drawBench_2 (j := 25) (n := 4) rfl)
theorem dX9_drawBench_154 : decode cX9_drawBench 154 = .ok (.ireturn, 1) := dq_172 (hz_wg wX9_drawBench_2 (j := 26) (n := 172) rfl)
theorem dX9_drawBench_155 : decode cX9_drawBench 155 = .ok (.iload 5, 2) := dq_21 (hz_wg wX9_drawBench_2 (j := 27) (n := 21) rfl) (hz_wg wX9_drawBench_2 (j := 28) (n := 5) rfl)
theorem dX9_drawBench_157 : decode cX9_drawBench 157 = .ok (.iload 8, 2) := dq_21 (hz_wg wX9_drawBench_2 (j := 29) (n := 21) rfl) (hz_wg wX9_drawBench_2 (j := 30) (n := 8) rfl)
theorem dX9_drawBench_159 : decode cX9_drawBench 159 = .ok (.isub, 1) := dq_100 (hz_wg wX9_drawBench_2 (j := 31) (n := 100) rfl)
theorem dX9_drawBench_160 : decode cX9_drawBench 160 = .ok (.istore 5, 2) := dq_54 (hz_wg wX9_drawBench_2 (j := 32) (n := 54) rfl) (hz_wg wX9_drawBench_2 (j := 33) (n := 5) rfl)
theorem dX9_drawBench_162 : decode cX9_drawBench 162 = .ok (.iinc 7 1, 3) := dq_132 (hz_wg wX9_drawBench_2 (j := 34) (n := 132) rfl) (hz_wg wX9_drawBench_2 (j := 35) (n := 7) rfl) (hz_wg wX9_drawBench_2 (j := 36) (n := 1) rfl) (by decide)
theorem dX9_drawBench_165 : decode cX9_drawBench 165 = .ok (.goto (-77), 3) := dq_167 (hz_wg wX9_drawBench_2 (j := 37) (n := 167) rfl) (hz_wg wX9_drawBench_2 (j := 38) (n := 255) rfl) (hz_wg wX9_drawBench_2 (j := 39) (n := 179) rfl) (by decide)
theorem dX9_drawBench_168 : decode cX9_drawBench 168 = .ok (.iinc 6 1, 3) := dq_132 (hz_wg wX9_drawBench_2 (j := 40) (n := 132) rfl) (hz_wg wX9_drawBench_2 (j := 41) (n := 6) rfl) (hz_wg wX9_drawBench_2 (j := 42) (n := 1) rfl) (by decide)
theorem dX9_drawBench_171 : decode cX9_drawBench 171 = .ok (.goto (-95), 3) := dq_167 (hz_wg wX9_drawBench_2 (j := 43) (n := 167) rfl) (hz_wg wX9_drawBench_2 (j := 44) (n := 255) rfl) (hz_wg wX9_drawBench_2 (j := 45) (n := 161) rfl) (by decide)
theorem dX9_drawBench_174 : decode cX9_drawBench 174 = .ok (.iconst 0, 1) := dq_3 (hz_wg wX9_drawBench_2 (j := 46) (n := 3) rfl)
theorem dX9_drawBench_175 : decode cX9_drawBench 175 = .ok (.ireturn, 1) := dq_172 (hz_wg wX9_drawBench_2 (j := 47) (n := 172) rfl)