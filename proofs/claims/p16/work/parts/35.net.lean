def wLX9_ringNeeds_0 : List Nat := [3, 60, 3, 61, 28, 42, 180, 0, 79, 180, 1, 105, 162, 0, 84, 42, 180, 0, 79, 180, 1, 108, 62, 3, 54, 4, 21, 4, 42, 180, 0, 181, 162, 0, 58, 29, 158, 0, 54, 42, 180, 0, 66, 21, 4, 46, 158, 0, 38, 42, 180, 0, 79, 28, 42, 180, 0, 48, 21, 4, 50, 182, 1, 111]
def wLX9_ringNeeds_1 : List Nat := [153, 0, 20, 29, 29, 42, 180, 0, 66, 21, 4, 46, 184, 1, 53, 100, 62, 132, 1, 1, 132, 4, 1, 167, 255, 195, 132, 2, 1, 167, 255, 167, 27, 172]
theorem wX9_ringNeeds_0 : (cX9_ringNeeds.data.toList.map UInt8.toNat).drop 0 = wLX9_ringNeeds_0 ++ (wLX9_ringNeeds_1 ++ ([])) := by decide +kernel
theorem wX9_ringNeeds_1 : (cX9_ringNeeds.data.toList.map UInt8.toNat).drop 64 = wLX9_ringNeeds_1 ++ ([]) := hz_wn wX9_ringNeeds_0 rfl
theorem dX9_ringNeeds_0 : decode cX9_ringNeeds 0 = .ok (.iconst 0, 1) := dq_3 (hz_wg wX9_ringNeeds_0 (j := 0) (n := 3) rfl)
theorem dX9_ringNeeds_1 : decode cX9_ringNeeds 1 = .ok (.istore_n 1, 1) := dq_60 (hz_wg wX9_ringNeeds_0 (j := 1) (n := 60) rfl)
theorem dX9_ringNeeds_2 : decode cX9_ringNeeds 2 = .ok (.iconst 0, 1) := dq_3 (hz_wg wX9_ringNeeds_0 (j := 2) (n := 3) rfl)
theorem dX9_ringNeeds_3 : decode cX9_ringNeeds 3 = .ok (.istore_n 2, 1) := dq_61 (hz_wg wX9_ringNeeds_0 (j := 3) (n := 61) rfl)
theorem dX9_ringNeeds_4 : decode cX9_ringNeeds 4 = .ok (.iload_n 2, 1) := dq_28 (hz_wg wX9_ringNeeds_0 (j := 4) (n := 28) rfl)
theorem dX9_ringNeeds_5 : decode cX9_ringNeeds 5 = .ok (.aload_n 0, 1) := dq_42 (hz_wg wX9_ringNeeds_0 (j := 5) (n := 42) rfl)
theorem dX9_ringNeeds_6 : decode cX9_ringNeeds 6 = .ok (.getfield 79, 3) := dq_180 (hz_wg wX9_ringNeeds_0 (j := 6) (n := 180) rfl) (hz_wg wX9_ringNeeds_0 (j := 7) (n := 0) rfl) (hz_wg wX9_ringNeeds_0 (j := 8) (n := 79) rfl) rfl
theorem dX9_ringNeeds_9 : decode cX9_ringNeeds 9 = .ok (.getfield 361, 3) := dq_180 (hz_wg wX9_ringNeeds_0 (j := 9) (n := 180) rfl) (hz_wg wX9_ringNeeds_0 (j := 10) (n := 1) rfl) (hz_wg wX9_ringNeeds_0 (j := 11) (n := 105) rfl) rfl
theorem dX9_ringNeeds_12 : decode cX9_ringNeeds 12 = .ok (.if_icmp .ge 84, 3) := dq_162 (hz_wg wX9_ringNeeds_0 (j := 12) (n := 162) rfl) (hz_wg wX9_ringNeeds_0 (j := 13) (n := 0) rfl) (hz_wg wX9_ringNeeds_0 (j := 14) (n := 84) rfl) (by decide)
theorem dX9_ringNeeds_15 : decode cX9_ringNeeds 15 = .ok (.aload_n 0, 1) := dq_42 (hz_wg wX9_ringNeeds_0 (j := 15) (n := 42) rfl)
theorem dX9_ringNeeds_16 : decode cX9_ringNeeds 16 = .ok (.getfield 79, 3) := dq_180 (hz_wg wX9_ringNeeds_0 (j := 16) (n := 180) rfl) (hz_wg wX9_ringNeeds_0 (j := 17) (n := 0) rfl) (hz_wg wX9_ringNeeds_0 (j := 18) (n := 79) rfl) rfl
theorem dX9_ringNeeds_19 : decode cX9_ringNeeds 19 = .ok (.getfield 364, 3) := dq_180 (hz_wg wX9_ringNeeds_0 (j := 19) (n := 180) rfl) (hz_wg wX9_ringNeeds_0 (j := 20) (n := 1) rfl) (hz_wg wX9_ringNeeds_0 (j := 21) (n := 108) rfl) rfl
theorem dX9_ringNeeds_22 : decode cX9_ringNeeds 22 = .ok (.istore_n 3, 1) := dq_62 (hz_wg wX9_ringNeeds_0 (j := 22) (n := 62) rfl)
theorem dX9_ringNeeds_23 : decode cX9_ringNeeds 23 = .ok (.iconst 0, 1) := dq_3 (hz_wg wX9_ringNeeds_0 (j := 23) (n := 3) rfl)
theorem dX9_ringNeeds_24 : decode cX9_ringNeeds 24 = .ok (.istore 4, 2) := dq_54 (hz_wg wX9_ringNeeds_0 (j := 24) (n := 54) rfl) (hz_wg wX9_ringNeeds_0 (j := 25) (n := 4) rfl)
theorem dX9_ringNeeds_26 : decode cX9_ringNeeds 26 = .ok (.iload 4, 2) := dq_21 (hz_wg wX9_ringNeeds_0 (j := 26) (n := 21) rfl) (hz_wg wX9_ringNeeds_0 (j := 27) (n := 4) rfl)
theorem dX9_ringNeeds_28 : decode cX9_ringNeeds 28 = .ok (.aload_n 0, 1) := dq_42 (hz_wg wX9_ringNeeds_0 (j := 28) (n := 42) rfl)
theorem dX9_ringNeeds_29 : decode cX9_ringNeeds 29 = .ok (.getfield 181, 3) := dq_180 (hz_wg wX9_ringNeeds_0 (j := 29) (n := 180) rfl) (hz_wg wX9_ringNeeds_0 (j := 30) (n := 0) rfl) (hz_wg wX9_ringNeeds_0 (j := 31) (n := 181) rfl) rfl
theorem dX9_ringNeeds_32 : decode cX9_ringNeeds 32 = .ok (.if_icmp .ge 58, 3) := dq_162 (hz_wg wX9_ringNeeds_0 (j := 32) (n := 162) rfl) (hz_wg wX9_ringNeeds_0 (j := 33) (n := 0) rfl) (hz_wg wX9_ringNeeds_0 (j := 34) (n := 58) rfl) (by decide)
theorem dX9_ringNeeds_35 : decode cX9_ringNeeds 35 = .ok (.iload_n 3, 1) := dq_29 (hz_wg wX9_ringNeeds_0 (j := 35) (n := 29) rfl)
theorem dX9_ringNeeds_36 : decode cX9_ringNeeds 36 = .ok (.ifCond .le 54, 3) := dq_158 (hz_wg wX9_ringNeeds_0 (j := 36) (n := 158) rfl) (hz_wg wX9_ringNeeds_0 (j := 37) (n := 0) rfl) (hz_wg wX9_ringNeeds_0 (j := 38) (n := 54) rfl) (by decide)
theorem dX9_ringNeeds_39 : decode cX9_ringNeeds 39 = .ok (.aload_n 0, 1) := dq_42 (hz_wg wX9_ringNeeds_0 (j := 39) (n := 42) rfl)
theorem dX9_ringNeeds_40 : decode cX9_ringNeeds 40 = .ok (.getfield 66, 3) := dq_180 (hz_wg wX9_ringNeeds_0 (j := 40) (n := 180) rfl) (hz_wg wX9_ringNeeds_0 (j := 41) (n := 0) rfl) (hz_wg wX9_ringNeeds_0 (j := 42) (n := 66) rfl) rfl
theorem dX9_ringNeeds_43 : decode cX9_ringNeeds 43 = .ok (.iload 4, 2) := dq_21 (hz_wg wX9_ringNeeds_0 (j := 43) (n := 21) rfl) (hz_wg wX9_ringNeeds_0 (j := 44) (n := 4) rfl)
theorem dX9_ringNeeds_45 : decode cX9_ringNeeds 45 = .ok (.iaload, 1) := dq_46 (hz_wg wX9_ringNeeds_0 (j := 45) (n := 46) rfl)
theorem dX9_ringNeeds_46 : decode cX9_ringNeeds 46 = .ok (.ifCond .le 38, 3) := dq_158 (hz_wg wX9_ringNeeds_0 (j := 46) (n := 158) rfl) (hz_wg wX9_ringNeeds_0 (j := 47) (n := 0) rfl) (hz_wg wX9_ringNeeds_0 (j := 48) (n := 38) rfl) (by decide)
theorem dX9_ringNeeds_49 : decode cX9_ringNeeds 49 = .ok (.aload_n 0, 1) := dq_42 (hz_wg wX9_ringNeeds_0 (j := 49) (n := 42) rfl)
theorem dX9_ringNeeds_50 : decode cX9_ringNeeds 50 = .ok (.getfield 79, 3) := dq_180 (hz_wg wX9_ringNeeds_0 (j := 50) (n := 180) rfl) (hz_wg wX9_ringNeeds_0 (j := 51) (n := 0) rfl) (hz_wg wX9_ringNeeds_0 (j := 52) (n := 79) rfl) rfl
theorem dX9_ringNeeds_53 : decode cX9_ringNeeds 53 = .ok (.iload_n 2, 1) := dq_28 (hz_wg wX9_ringNeeds_0 (j := 53) (n := 28) rfl)
theorem dX9_ringNeeds_54 : decode cX9_ringNeeds 54 = .ok (.aload_n 0, 1) := dq_42 (hz_wg wX9_ringNeeds_0 (j := 54) (n := 42) rfl)
theorem dX9_ringNeeds_55 : decode cX9_ringNeeds 55 = .ok (.getfield 48, 3) := dq_180 (hz_wg wX9_ringNeeds_0 (j := 55) (n := 180) rfl) (hz_wg wX9_ringNeeds_0 (j := 56) (n := 0) rfl) (hz_wg wX9_ringNeeds_0 (j := 57) (n := 48) rfl) rfl
theorem dX9_ringNeeds_58 : decode cX9_ringNeeds 58 = .ok (.iload 4, 2) := dq_21 (hz_wg wX9_ringNeeds_0 (j := 58) (n := 21) rfl) (hz_wg wX9_ringNeeds_0 (j := 59) (n := 4) rfl)
theorem dX9_ringNeeds_60 : decode cX9_ringNeeds 60 = .ok (.aaload, 1) := dq_50 (hz_wg wX9_ringNeeds_0 (j := 60) (n := 50) rfl)
theorem dX9_ringNeeds_61 : decode cX9_ringNeeds 61 = .ok (.invokevirtual 367, 3) := dq_182 (hz_wg wX9_ringNeeds_0 (j := 61) (n := 182) rfl) (hz_wg wX9_ringNeeds_0 (j := 62) (n := 1) rfl) (hz_wg wX9_ringNeeds_0 (j := 63) (n := 111) rfl) rfl
theorem dX9_ringNeeds_64 : decode cX9_ringNeeds 64 = .ok (.ifCond .eq 20, 3) := dq_153 (hz_wg wX9_ringNeeds_1 (j := 0) (n := 153) rfl) (hz_wg wX9_ringNeeds_1 (j := 1) (n := 0) rfl) (hz_wg wX9_ringNeeds_1 (j := 2) (n := 20) rfl) (by decide)
theorem dX9_ringNeeds_67 : decode cX9_ringNeeds 67 = .ok (.iload_n 3, 1) := dq_29 (hz_wg wX9_ringNeeds_1 (j := 3) (n := 29) rfl)
theorem dX9_ringNeeds_68 : decode cX9_ringNeeds 68 = .ok (.iload_n 3, 1) := dq_29 (hz_wg wX9_ringNeeds_1 (j := 4) (n := 29) rfl)
theorem dX9_ringNeeds_69 : decode cX9_ringNeeds 69 = .ok (.aload_n 0, 1) := dq_42 (hz_wg wX9_ringNeeds_1 (j := 5) (n := 42) rfl)
theorem dX9_ringNeeds_70 : decode cX9_ringNeeds 70 = .ok (.getfield 66, 3) := dq_180 (hz_wg wX9_ringNeeds_1 (j := 6) (n := 180) rfl) (hz_wg wX9_ringNeeds_1 (j := 7) (n := 0) rfl) (hz_wg wX9_ringNeeds_1 (j := 8) (n := 66) rfl) rfl
theorem dX9_ringNeeds_73 : decode cX9_ringNeeds 73 = .ok (.iload 4, 2) := dq_21 (hz_wg wX9_ringNeeds_1 (j := 9) (n := 21) rfl) (hz_wg wX9_ringNeeds_1 (j := 10) (n := 4) rfl)
theorem dX9_ringNeeds_75 : decode cX9_ringNeeds 75 = .ok (.iaload, 1) := dq_46 (hz_wg wX9_ringNeeds_1 (j := 11) (n := 46) rfl)
theorem dX9_ringNeeds_76 : decode cX9_ringNeeds 76 = .ok (.invokestatic 309, 3) := dq_184 (hz_wg wX9_ringNeeds_1 (j := 12) (n := 184) rfl) (hz_wg wX9_ringNeeds_1 (j := 13) (n := 1) rfl) (hz_wg wX9_ringNeeds_1 (j := 14) (n := 53) rfl) rfl
theorem dX9_ringNeeds_79 : decode cX9_ringNeeds 79 = .ok (.isub, 1) := dq_100 (hz_wg wX9_ringNeeds_1 (j := 15) (n := 100) rfl)
theorem dX9_ringNeeds_80 : decode cX9_ringNeeds 80 = .ok (.istore_n 3, 1) := dq_62 (hz_wg wX9_ringNeeds_1 (j := 16) (n := 62) rfl)
theorem dX9_ringNeeds_81 : decode cX9_ringNeeds 81 = .ok (.iinc 1 1, 3) := dq_132 (hz_wg wX9_ringNeeds_1 (j := 17) (n := 132) rfl) (hz_wg wX9_ringNeeds_1 (j := 18) (n := 1) rfl) (hz_wg wX9_ringNeeds_1 (j := 19) (n := 1) rfl) (by decide)
theorem dX9_ringNeeds_84 : decode cX9_ringNeeds 84 = .ok (.iinc 4 1, 3) := dq_132 (hz_wg wX9_ringNeeds_1 (j := 20) (n := 132) rfl) (hz_wg wX9_ringNeeds_1 (j := 21) (n := 4) rfl) (hz_wg wX9_ringNeeds_1 (j := 22) (n := 1) rfl) (by decide)
theorem dX9_ringNeeds_87 : decode cX9_ringNeeds 87 = .ok (.goto (-61), 3) := dq_167 (hz_wg wX9_ringNeeds_1 (j := 23) (n := 167) rfl) (hz_wg wX9_ringNeeds_1 (j := 24) (n := 255) rfl) (hz_wg wX9_ringNeeds_1 (j := 25) (n := 195) rfl) (by decide)
theorem dX9_ringNeeds_90 : decode cX9_ringNeeds 90 = .ok (.iinc 2 1, 3) := dq_132 (hz_wg wX9_ringNeeds_1 (j := 26) (n := 132) rfl) (hz_wg wX9_ringNeeds_1 (j := 27) (n := 2) rfl) (hz_wg wX9_ringNeeds_1 (j := 28) (n := 1) rfl) (by decide)
theorem dX9_ringNeeds_93 : decode cX9_ringNeeds 93 = .ok (.goto (-89), 3) := dq_167 (hz_wg wX9_ringNeeds_1 (j := 29) (n := 167) rfl) (hz_wg wX9_ringNeeds_1 (j := 30) (n := 255) rfl) (hz_wg wX9_ringNeeds_1 (j := 31) (n := 167) rfl) (by decide)
theorem dX9_ringNeeds_96 : decode cX9_ringNeeds 96 = .ok (.iload_n 1, 1) := dq_27 (hz_wg wX9_ringNeeds_1 (j := 32) (n := 27) rfl)
theorem dX9_ringNeeds_97 : decode cX9_ringNeeds 97 = .ok (.ireturn, 1) := dq_172 (hz_wg wX9_ringNeeds_1 (j := 33) (n := 172) rfl)
def wLX9_takeOffRing_0 : List Nat := [42, 180, 0, 79, 180, 1, 108, 60, 3, 61, 28, 42, 180, 0, 79, 180, 1, 105, 162, 0, 111, 27, 62, 3, 54, 4, 21, 4, 42, 180, 0, 181, 162, 0, 91, 29, 158, 0, 87, 42, 180, 0, 66, 21, 4, 46, 158, 0, 71, 42, 180, 0, 79, 28, 42, 180, 0, 48, 21, 4, 50, 182, 1, 111]
def wLX9_takeOffRing_1 : List Nat := [153, 0, 53, 29, 42, 180, 0, 66, 21, 4, 46, 184, 1, 53, 54, 5, 42, 180, 0, 58, 21, 4, 42, 180, 0, 94, 42, 180, 0, 94, 21, 5, 182, 1, 26, 87, 42, 180, 0, 66, 21, 4, 92, 46, 21, 5, 100, 79, 29, 21, 5, 100, 62, 132, 4, 1, 167, 255, 162, 132, 2, 1, 167, 255]
def wLX9_takeOffRing_2 : List Nat := [140, 27, 42, 180, 0, 79, 180, 1, 105, 104, 61, 42, 180, 0, 79, 182, 1, 115, 28, 172]
theorem wX9_takeOffRing_0 : (cX9_takeOffRing.data.toList.map UInt8.toNat).drop 0 = wLX9_takeOffRing_0 ++ (wLX9_takeOffRing_1 ++ (wLX9_takeOffRing_2 ++ ([]))) := by decide +kernel
theorem wX9_takeOffRing_1 : (cX9_takeOffRing.data.toList.map UInt8.toNat).drop 64 = wLX9_takeOffRing_1 ++ (wLX9_takeOffRing_2 ++ ([])) := hz_wn wX9_takeOffRing_0 rfl
theorem wX9_takeOffRing_2 : (cX9_takeOffRing.data.toList.map UInt8.toNat).drop 128 = wLX9_takeOffRing_2 ++ ([]) := hz_wn wX9_takeOffRing_1 rfl
theorem dX9_takeOffRing_0 : decode cX9_takeOffRing 0 = .ok (.aload_n 0, 1) := dq_42 (hz_wg wX9_takeOffRing_0 (j := 0) (n := 42) rfl)
theorem dX9_takeOffRing_1 : decode cX9_takeOffRing 1 = .ok (.getfield 79, 3) := dq_180 (hz_wg wX9_takeOffRing_0 (j := 1) (n := 180) rfl) (hz_wg wX9_takeOffRing_0 (j := 2) (n := 0) rfl) (hz_wg wX9_takeOffRing_0 (j := 3) (n := 79) rfl) rfl
theorem dX9_takeOffRing_4 : decode cX9_takeOffRing 4 = .ok (.getfield 364, 3) := dq_180 (hz_wg wX9_takeOffRing_0 (j := 4) (n := 180) rfl) (hz_wg wX9_takeOffRing_0 (j := 5) (n := 1) rfl) (hz_wg wX9_takeOffRing_0 (j := 6) (n := 108) rfl) rfl
theorem dX9_takeOffRing_7 : decode cX9_takeOffRing 7 = .ok (.istore_n 1, 1) := dq_60 (hz_wg wX9_takeOffRing_0 (j := 7) (n := 60) rfl)
theorem dX9_takeOffRing_8 : decode cX9_takeOffRing 8 = .ok (.iconst 0, 1) := dq_3 (hz_wg wX9_takeOffRing_0 (j := 8) (n := 3) rfl)
theorem dX9_takeOffRing_9 : decode cX9_takeOffRing 9 = .ok (.istore_n 2, 1) := dq_61 (hz_wg wX9_takeOffRing_0 (j := 9) (n := 61) rfl)
theorem dX9_takeOffRing_10 : decode cX9_takeOffRing 10 = .ok (.iload_n 2, 1) := dq_28 (hz_wg wX9_takeOffRing_0 (j := 10) (n := 28) rfl)
theorem dX9_takeOffRing_11 : decode cX9_takeOffRing 11 = .ok (.aload_n 0, 1) := dq_42 (hz_wg wX9_takeOffRing_0 (j := 11) (n := 42) rfl)
theorem dX9_takeOffRing_12 : decode cX9_takeOffRing 12 = .ok (.getfield 79, 3) := dq_180 (hz_wg wX9_takeOffRing_0 (j := 12) (n := 180) rfl) (hz_wg wX9_takeOffRing_0 (j := 13) (n := 0) rfl) (hz_wg wX9_takeOffRing_0 (j := 14) (n := 79) rfl) rfl
theorem dX9_takeOffRing_15 : decode cX9_takeOffRing 15 = .ok (.getfield 361, 3) := dq_180 (hz_wg wX9_takeOffRing_0 (j := 15) (n := 180) rfl) (hz_wg wX9_takeOffRing_0 (j := 16) (n := 1) rfl) (hz_wg wX9_takeOffRing_0 (j := 17) (n := 105) rfl) rfl
theorem dX9_takeOffRing_18 : decode cX9_takeOffRing 18 = .ok (.if_icmp .ge 111, 3) := dq_162 (hz_wg wX9_takeOffRing_0 (j := 18) (n := 162) rfl) (hz_wg wX9_takeOffRing_0 (j := 19) (n := 0) rfl) (hz_wg wX9_takeOffRing_0 (j := 20) (n := 111) rfl) (by decide)
theorem dX9_takeOffRing_21 : decode cX9_takeOffRing 21 = .ok (.iload_n 1, 1) := dq_27 (hz_wg wX9_takeOffRing_0 (j := 21) (n := 27) rfl)
theorem dX9_takeOffRing_22 : decode cX9_takeOffRing 22 = .ok (.istore_n 3, 1) := dq_62 (hz_wg wX9_takeOffRing_0 (j := 22) (n := 62) rfl)
theorem dX9_takeOffRing_23 : decode cX9_takeOffRing 23 = .ok (.iconst 0, 1) := dq_3 (hz_wg wX9_takeOffRing_0 (j := 23) (n := 3) rfl)
theorem dX9_takeOffRing_24 : decode cX9_takeOffRing 24 = .ok (.istore 4, 2) := dq_54 (hz_wg wX9_takeOffRing_0 (j := 24) (n := 54) rfl) (hz_wg wX9_takeOffRing_0 (j := 25) (n := 4) rfl)
theorem dX9_takeOffRing_26 : decode cX9_takeOffRing 26 = .ok (.iload 4, 2) := dq_21 (hz_wg wX9_takeOffRing_0 (j := 26) (n := 21) rfl) (hz_wg wX9_takeOffRing_0 (j := 27) (n := 4) rfl)
theorem dX9_takeOffRing_28 : decode cX9_takeOffRing 28 = .ok (.aload_n 0, 1) := dq_42 (hz_wg wX9_takeOffRing_0 (j := 28) (n := 42) rfl)
theorem dX9_takeOffRing_29 : decode cX9_takeOffRing 29 = .ok (.getfield 181, 3) := dq_180 (hz_wg wX9_takeOffRing_0 (j := 29) (n := 180) rfl) (hz_wg wX9_takeOffRing_0 (j := 30) (n := 0) rfl) (hz_wg wX9_takeOffRing_0 (j := 31) (n := 181) rfl) rfl
theorem dX9_takeOffRing_32 : decode cX9_takeOffRing 32 = .ok (.if_icmp .ge 91, 3) := dq_162 (hz_wg wX9_takeOffRing_0 (j := 32) (n := 162) rfl) (hz_wg wX9_takeOffRing_0 (j := 33) (n := 0) rfl) (hz_wg wX9_takeOffRing_0 (j := 34) (n := 91) rfl) (by decide)
theorem dX9_takeOffRing_35 : decode cX9_takeOffRing 35 = .ok (.iload_n 3, 1) := dq_29 (hz_wg wX9_takeOffRing_0 (j := 35) (n := 29) rfl)
theorem dX9_takeOffRing_36 : decode cX9_takeOffRing 36 = .ok (.ifCond .le 87, 3) := dq_158 (hz_wg wX9_takeOffRing_0 (j := 36) (n := 158) rfl) (hz_wg wX9_takeOffRing_0 (j := 37) (n := 0) rfl) (hz_wg wX9_takeOffRing_0 (j := 38) (n := 87) rfl) (by decide)
theorem dX9_takeOffRing_39 : decode cX9_takeOffRing 39 = .ok (.aload_n 0, 1) := dq_42 (hz_wg wX9_takeOffRing_0 (j := 39) (n := 42) rfl)
theorem dX9_takeOffRing_40 : decode cX9_takeOffRing 40 = .ok (.getfield 66, 3) := dq_180 (hz_wg wX9_takeOffRing_0 (j := 40) (n := 180) rfl) (hz_wg wX9_takeOffRing_0 (j := 41) (n := 0) rfl) (hz_wg wX9_takeOffRing_0 (j := 42) (n := 66) rfl) rfl
theorem dX9_takeOffRing_43 : decode cX9_takeOffRing 43 = .ok (.iload 4, 2) := dq_21 (hz_wg wX9_takeOffRing_0 (j := 43) (n := 21) rfl) (hz_wg wX9_takeOffRing_0 (j := 44) (n := 4) rfl)
theorem dX9_takeOffRing_45 : decode cX9_takeOffRing 45 = .ok (.iaload, 1) := dq_46 (hz_wg wX9_takeOffRing_0 (j := 45) (n := 46) rfl)
theorem dX9_takeOffRing_46 : decode cX9_takeOffRing 46 = .ok (.ifCond .le 71, 3) := dq_158 (hz_wg wX9_takeOffRing_0 (j := 46) (n := 158) rfl) (hz_wg wX9_takeOffRing_0 (j := 47) (n := 0) rfl) (hz_wg wX9_takeOffRing_0 (j := 48) (n := 71) rfl) (by decide)
theorem dX9_takeOffRing_49 : decode cX9_takeOffRing 49 = .ok (.aload_n 0, 1) := dq_42 (hz_wg wX9_takeOffRing_0 (j := 49) (n := 42) rfl)
theorem dX9_takeOffRing_50 : decode cX9_takeOffRing 50 = .ok (.getfield 79, 3) := dq_180 (hz_wg wX9_takeOffRing_0 (j := 50) (n := 180) rfl) (hz_wg wX9_takeOffRing_0 (j := 51) (n := 0) rfl) (hz_wg wX9_takeOffRing_0 (j := 52) (n := 79) rfl) rfl
theorem dX9_takeOffRing_53 : decode cX9_takeOffRing 53 = .ok (.iload_n 2, 1) := dq_28 (hz_wg wX9_takeOffRing_0 (j := 53) (n := 28) rfl)
theorem dX9_takeOffRing_54 : decode cX9_takeOffRing 54 = .ok (.aload_n 0, 1) := dq_42 (hz_wg wX9_takeOffRing_0 (j := 54) (n := 42) rfl)
theorem dX9_takeOffRing_55 : decode cX9_takeOffRing 55 = .ok (.getfield 48, 3) := dq_180 (hz_wg wX9_takeOffRing_0 (j := 55) (n := 180) rfl) (hz_wg wX9_takeOffRing_0 (j := 56) (n := 0) rfl) (hz_wg wX9_takeOffRing_0 (j := 57) (n := 48) rfl) rfl
theorem dX9_takeOffRing_58 : decode cX9_takeOffRing 58 = .ok (.iload 4, 2) := dq_21 (hz_wg wX9_takeOffRing_0 (j := 58) (n := 21) rfl) (hz_wg wX9_takeOffRing_0 (j := 59) (n := 4) rfl)
theorem dX9_takeOffRing_60 : decode cX9_takeOffRing 60 = .ok (.aaload, 1) := dq_50 (hz_wg wX9_takeOffRing_0 (j := 60) (n := 50) rfl)
theorem dX9_takeOffRing_61 : decode cX9_takeOffRing 61 = .ok (.invokevirtual 367, 3) := dq_182 (hz_wg wX9_takeOffRing_0 (j := 61) (n := 182) rfl) (hz_wg wX9_takeOffRing_0 (j := 62) (n := 1) rfl) (hz_wg wX9_takeOffRing_0 (j := 63) (n := 111) rfl) rfl
theorem dX9_takeOffRing_64 : decode cX9_takeOffRing 64 = .ok (.ifCond .eq 53, 3) := dq_153 (hz_wg wX9_takeOffRing_1 (j := 0) (n := 153) rfl) (hz_wg wX9_takeOffRing_1 (j := 1) (n := 0) rfl) (hz_wg wX9_takeOffRing_1 (j := 2) (n := 53) rfl) (by decide)
theorem dX9_takeOffRing_67 : decode cX9_takeOffRing 67 = .ok (.iload_n 3, 1) := dq_29 (hz_wg wX9_takeOffRing_1 (j := 3) (n := 29) rfl)
theorem dX9_takeOffRing_68 : decode cX9_takeOffRing 68 = .ok (.aload_n 0, 1) := dq_42 (hz_wg wX9_takeOffRing_1 (j := 4) (n := 42) rfl)
theorem dX9_takeOffRing_69 : decode cX9_takeOffRing 69 = .ok (.getfield 66, 3) := dq_180 (hz_wg wX9_takeOffRing_1 (j := 5) (n := 180) rfl) (hz_wg wX9_takeOffRing_1 (j := 6) (n := 0) rfl) (hz_wg wX9_takeOffRing_1 (j := 7) (n := 66) rfl) rfl
theorem dX9_takeOffRing_72 : decode cX9_takeOffRing 72 = .ok (.iload 4, 2) := dq_21 (hz_wg wX9_takeOffRing_1 (j := 8) (n := 21) rfl) (hz_wg wX9_takeOffRing_1 (j := 9) (n := 4) rfl)
theorem dX9_takeOffRing_74 : decode cX9_takeOffRing 74 = .ok (.iaload, 1) := dq_46 (hz_wg wX9_takeOffRing_1 (j := 10) (n := 46) rfl)
theorem dX9_takeOffRing_75 : decode cX9_takeOffRing 75 = .ok (.invokestatic 309, 3) := dq_184 (hz_wg wX9_takeOffRing_1 (j := 11) (n := 184) rfl) (hz_wg wX9_takeOffRing_1 (j := 12) (n := 1) rfl) (hz_wg wX9_takeOffRing_1 (j := 13) (n := 53) rfl) rfl
theorem dX9_takeOffRing_78 : decode cX9_takeOffRing 78 = .ok (.istore 5, 2) := dq_54 (hz_wg wX9_takeOffRing_1 (j := 14) (n := 54) rfl) (hz_wg wX9_takeOffRing_1 (j := 15) (n := 5) rfl)
theorem dX9_takeOffRing_80 : decode cX9_takeOffRing 80 = .ok (.aload_n 0, 1) := dq_42 (hz_wg wX9_takeOffRing_1 (j := 16) (n := 42) rfl)
theorem dX9_takeOffRing_81 : decode cX9_takeOffRing 81 = .ok (.getfield 58, 3) := dq_180 (hz_wg wX9_takeOffRing_1 (j := 17) (n := 180) rfl) (hz_wg wX9_takeOffRing_1 (j := 18) (n := 0) rfl) (hz_wg wX9_takeOffRing_1 (j := 19) (n := 58) rfl) rfl
theorem dX9_takeOffRing_84 : decode cX9_takeOffRing 84 = .ok (.iload 4, 2) := dq_21 (hz_wg wX9_takeOffRing_1 (j := 20) (n := 21) rfl) (hz_wg wX9_takeOffRing_1 (j := 21) (n := 4) rfl)
theorem dX9_takeOffRing_86 : decode cX9_takeOffRing 86 = .ok (.aload_n 0, 1) := dq_42 (hz_wg wX9_takeOffRing_1 (j := 22) (n := 42) rfl)
theorem dX9_takeOffRing_87 : decode cX9_takeOffRing 87 = .ok (.getfield 94, 3) := dq_180 (hz_wg wX9_takeOffRing_1 (j := 23) (n := 180) rfl) (hz_wg wX9_takeOffRing_1 (j := 24) (n := 0) rfl) (hz_wg wX9_takeOffRing_1 (j := 25) (n := 94) rfl) rfl
theorem dX9_takeOffRing_90 : decode cX9_takeOffRing 90 = .ok (.aload_n 0, 1) := dq_42 (hz_wg wX9_takeOffRing_1 (j := 26) (n := 42) rfl)
theorem dX9_takeOffRing_91 : decode cX9_takeOffRing 91 = .ok (.getfield 94, 3) := dq_180 (hz_wg wX9_takeOffRing_1 (j := 27) (n := 180) rfl) (hz_wg wX9_takeOffRing_1 (j := 28) (n := 0) rfl) (hz_wg wX9_takeOffRing_1 (j := 29) (n := 94) rfl) rfl
theorem dX9_takeOffRing_94 : decode cX9_takeOffRing 94 = .ok (.iload 5, 2) := dq_21 (hz_wg wX9_takeOffRing_1 (j := 30) (n := 21) rfl) (hz_wg wX9_takeOffRing_1 (j := 31) (n := 5) rfl)
theorem dX9_takeOffRing_96 : decode cX9_takeOffRing 96 = .ok (.invokevirtual 282, 3) := dq_182 (hz_wg wX9_takeOffRing_1 (j := 32) (n := 182) rfl) (hz_wg wX9_takeOffRing_1 (j := 33) (n := 1) rfl) (hz_wg wX9_takeOffRing_1 (j := 34) (n := 26) rfl) rfl
theorem dX9_takeOffRing_99 : decode cX9_takeOffRing 99 = .ok (.pop, 1) := dq_87 (hz_wg wX9_takeOffRing_1 (j := 35) (n := 87) rfl)
theorem dX9_takeOffRing_100 : decode cX9_takeOffRing 100 = .ok (.aload_n 0, 1) := dq_42 (hz_wg wX9_takeOffRing_1 (j := 36) (n := 42) rfl)
theorem dX9_takeOffRing_101 : decode cX9_takeOffRing 101 = .ok (.getfield 66, 3) := dq_180 (hz_wg wX9_takeOffRing_1 (j := 37) (n := 180) rfl) (hz_wg wX9_takeOffRing_1 (j := 38) (n := 0) rfl) (hz_wg wX9_takeOffRing_1 (j := 39) (n := 66) rfl) rfl
theorem dX9_takeOffRing_104 : decode cX9_takeOffRing 104 = .ok (.iload 4, 2) := dq_21 (hz_wg wX9_takeOffRing_1 (j := 40) (n := 21) rfl) (hz_wg wX9_takeOffRing_1 (j := 41) (n := 4) rfl)
theorem dX9_takeOffRing_106 : decode cX9_takeOffRing 106 = .ok (.dup2, 1) := dq_92 (hz_wg wX9_takeOffRing_1 (j := 42) (n := 92) rfl)
theorem dX9_takeOffRing_107 : decode cX9_takeOffRing 107 = .ok (.iaload, 1) := dq_46 (hz_wg wX9_takeOffRing_1 (j := 43) (n := 46) rfl)
theorem dX9_takeOffRing_108 : decode cX9_takeOffRing 108 = .ok (.iload 5, 2) := dq_21 (hz_wg wX9_takeOffRing_1 (j := 44) (n := 21) rfl) (hz_wg wX9_takeOffRing_1 (j := 45) (n := 5) rfl)
theorem dX9_takeOffRing_110 : decode cX9_takeOffRing 110 = .ok (.isub, 1) := dq_100 (hz_wg wX9_takeOffRing_1 (j := 46) (n := 100) rfl)
theorem dX9_takeOffRing_111 : decode cX9_takeOffRing 111 = .ok (.iastore, 1) := dq_79 (hz_wg wX9_takeOffRing_1 (j := 47) (n := 79) rfl)
theorem dX9_takeOffRing_112 : decode cX9_takeOffRing 112 = .ok (.iload_n 3, 1) := dq_29 (hz_wg wX9_takeOffRing_1 (j := 48) (n := 29) rfl)
theorem dX9_takeOffRing_113 : decode cX9_takeOffRing 113 = .ok (.iload 5, 2) := dq_21 (hz_wg wX9_takeOffRing_1 (j := 49) (n := 21) rfl) (hz_wg wX9_takeOffRing_1 (j := 50) (n := 5) rfl)
theorem dX9_takeOffRing_115 : decode cX9_takeOffRing 115 = .ok (.isub, 1) := dq_100 (hz_wg wX9_takeOffRing_1 (j := 51) (n := 100) rfl)
theorem dX9_takeOffRing_116 : decode cX9_takeOffRing 116 = .ok (.istore_n 3, 1) := dq_62 (hz_wg wX9_takeOffRing_1 (j := 52) (n := 62) rfl)
theorem dX9_takeOffRing_117 : decode cX9_takeOffRing 117 = .ok (.iinc 4 1, 3) := dq_132 (hz_wg wX9_takeOffRing_1 (j := 53) (n := 132) rfl) (hz_wg wX9_takeOffRing_1 (j := 54) (n := 4) rfl) (hz_wg wX9_takeOffRing_1 (j := 55) (n := 1) rfl) (by decide)
theorem dX9_takeOffRing_120 : decode cX9_takeOffRing 120 = .ok (.goto (-94), 3) := dq_167 (hz_wg wX9_takeOffRing_1 (j := 56) (n := 167) rfl) (hz_wg wX9_takeOffRing_1 (j := 57) (n := 255) rfl) (hz_wg wX9_takeOffRing_1 (j := 58) (n := 162) rfl) (by decide)
theorem dX9_takeOffRing_123 : decode cX9_takeOffRing 123 = .ok (.iinc 2 1, 3) := dq_132 (hz_wg wX9_takeOffRing_1 (j := 59) (n := 132) rfl) (hz_wg wX9_takeOffRing_1 (j := 60) (n := 2) rfl) (hz_wg wX9_takeOffRing_1 (j := 61) (n := 1) rfl) (by decide)
theorem dX9_takeOffRing_126 : decode cX9_takeOffRing 126 = .ok (.goto (-116), 3) := dq_167 (hz_wg wX9_takeOffRing_1 (j := 62) (n := 167) rfl) (hz_wg wX9_takeOffRing_1 (j := 63) (n := 255) rfl) (hz_wg wX9_takeOffRing_2 (j := 0) (n := 140) rfl) (by decide)
theorem dX9_takeOffRing_129 : decode cX9_takeOffRing 129 = .ok (.iload_n 1, 1) := dq_27 (hz_wg wX9_takeOffRing_2 (j := 1) (n := 27) rfl)
theorem dX9_takeOffRing_130 : decode cX9_takeOffRing 130 = .ok (.aload_n 0, 1) := dq_42 (hz_wg wX9_takeOffRing_2 (j := 2) (n := 42) rfl)
theorem dX9_takeOffRing_131 : decode cX9_takeOffRing 131 = .ok (.getfield 79, 3) := dq_180 (hz_wg wX9_takeOffRing_2 (j := 3) (n := 180) rfl) (hz_wg wX9_takeOffRing_2 (j := 4) (n := 0) rfl) (hz_wg wX9_takeOffRing_2 (j := 5) (n := 79) rfl) rfl
theorem dX9_takeOffRing_134 : decode cX9_takeOffRing 134 = .ok (.getfield 361, 3) := dq_180 (hz_wg wX9_takeOffRing_2 (j := 6) (n := 180) rfl) (hz_wg wX9_takeOffRing_2 (j := 7) (n := 1) rfl) (hz_wg wX9_takeOffRing_2 (j := 8) (n := 105) rfl) rfl
theorem dX9_takeOffRing_137 : decode cX9_takeOffRing 137 = .ok (.imul, 1) := dq_104 (hz_wg wX9_takeOffRing_2 (j := 9) (n := 104) rfl)
theorem dX9_takeOffRing_138 : decode cX9_takeOffRing 138 = .ok (.istore_n 2, 1) := dq_61 (hz_wg wX9_takeOffRing_2 (j := 10) (n := 61) rfl)
theorem dX9_takeOffRing_139 : decode cX9_takeOffRing 139 = .ok (.aload_n 0, 1) := dq_42 (hz_wg wX9_takeOffRing_2 (j := 11) (n := 42) rfl)
theorem dX9_takeOffRing_140 : decode cX9_takeOffRing 140 = .ok (.getfield 79, 3) := dq_180 (hz_wg wX9_takeOffRing_2 (j := 12) (n := 180) rfl) (hz_wg wX9_takeOffRing_2 (j := 13) (n := 0) rfl) (hz_wg wX9_takeOffRing_2 (j := 14) (n := 79) rfl) rfl
theorem dX9_takeOffRing_143 : decode cX9_takeOffRing 143 = .ok (.invokevirtual 371, 3) := dq_182 (hz_wg wX9_takeOffRing_2 (j := 15) (n := 182) rfl) (hz_wg wX9_takeOffRing_2 (j := 16) (n := 1) rfl) (hz_wg wX9_takeOffRing_2 (j := 17) (n := 115) rfl) rfl
theorem dX9_takeOffRing_146 : decode cX9_takeOffRing 146 = .ok (.iload_n 2, 1) := dq_28 (hz_wg wX9_takeOffRing_2 (j := 18) (n := 28) rfl)
theorem dX9_takeOffRing_147 : decode cX9_takeOffRing 147 = .ok (.ireturn, 1) := dq_172 (hz_wg wX9_takeOffRing_2 (j := 19) (n := 172) rfl)
def wLX9_net_0 : List Nat := [42, 180, 0, 79, 42, 180, 0, 125, 182, 1, 90, 3, 60, 27, 42, 180, 0, 181, 162, 0, 65, 42, 180, 0, 48, 27, 50, 77, 42, 180, 0, 66, 27, 44, 42, 180, 0, 58, 42, 180, 0, 94, 42, 180, 0, 94, 182, 1, 46, 79, 42, 180, 0, 79, 44, 180, 0, 212, 180, 0, 143, 44, 180, 0]
def wLX9_net_1 : List Nat := [223, 180, 0, 143, 42, 180, 0, 66, 27, 46, 182, 1, 92, 132, 1, 1, 167, 255, 189, 3, 60, 3, 61, 28, 16, 100, 162, 0, 44, 42, 180, 0, 79, 182, 1, 95, 153, 0, 34, 42, 182, 1, 99, 17, 2, 88, 42, 180, 0, 58, 180, 1, 22, 100, 163, 0, 16, 27, 42, 182, 1, 102, 96, 60]
def wLX9_net_2 : List Nat := [132, 2, 1, 167, 255, 212, 27, 172]
theorem wX9_net_0 : (cX9_net.data.toList.map UInt8.toNat).drop 0 = wLX9_net_0 ++ (wLX9_net_1 ++ (wLX9_net_2 ++ ([]))) := by decide +kernel
theorem wX9_net_1 : (cX9_net.data.toList.map UInt8.toNat).drop 64 = wLX9_net_1 ++ (wLX9_net_2 ++ ([])) := hz_wn wX9_net_0 rfl
theorem wX9_net_2 : (cX9_net.data.toList.map UInt8.toNat).drop 128 = wLX9_net_2 ++ ([]) := hz_wn wX9_net_1 rfl
theorem dX9_net_0 : decode cX9_net 0 = .ok (.aload_n 0, 1) := dq_42 (hz_wg wX9_net_0 (j := 0) (n := 42) rfl)
theorem dX9_net_1 : decode cX9_net 1 = .ok (.getfield 79, 3) := dq_180 (hz_wg wX9_net_0 (j := 1) (n := 180) rfl) (hz_wg wX9_net_0 (j := 2) (n := 0) rfl) (hz_wg wX9_net_0 (j := 3) (n := 79) rfl) rfl
theorem dX9_net_4 : decode cX9_net 4 = .ok (.aload_n 0, 1) := dq_42 (hz_wg wX9_net_0 (j := 4) (n := 42) rfl)
theorem dX9_net_5 : decode cX9_net 5 = .ok (.getfield 125, 3) := dq_180 (hz_wg wX9_net_0 (j := 5) (n := 180) rfl) (hz_wg wX9_net_0 (j := 6) (n := 0) rfl) (hz_wg wX9_net_0 (j := 7) (n := 125) rfl) rfl
theorem dX9_net_8 : decode cX9_net 8 = .ok (.invokevirtual 346, 3) := dq_182 (hz_wg wX9_net_0 (j := 8) (n := 182) rfl) (hz_wg wX9_net_0 (j := 9) (n := 1) rfl) (hz_wg wX9_net_0 (j := 10) (n := 90) rfl) rfl
theorem dX9_net_11 : decode cX9_net 11 = .ok (.iconst 0, 1) := dq_3 (hz_wg wX9_net_0 (j := 11) (n := 3) rfl)
theorem dX9_net_12 : decode cX9_net 12 = .ok (.istore_n 1, 1) := dq_60 (hz_wg wX9_net_0 (j := 12) (n := 60) rfl)
theorem dX9_net_13 : decode cX9_net 13 = .ok (.iload_n 1, 1) := dq_27 (hz_wg wX9_net_0 (j := 13) (n := 27) rfl)
theorem dX9_net_14 : decode cX9_net 14 = .ok (.aload_n 0, 1) := dq_42 (hz_wg wX9_net_0 (j := 14) (n := 42) rfl)
theorem dX9_net_15 : decode cX9_net 15 = .ok (.getfield 181, 3) := dq_180 (hz_wg wX9_net_0 (j := 15) (n := 180) rfl) (hz_wg wX9_net_0 (j := 16) (n := 0) rfl) (hz_wg wX9_net_0 (j := 17) (n := 181) rfl) rfl
theorem dX9_net_18 : decode cX9_net 18 = .ok (.if_icmp .ge 65, 3) := dq_162 (hz_wg wX9_net_0 (j := 18) (n := 162) rfl) (hz_wg wX9_net_0 (j := 19) (n := 0) rfl) (hz_wg wX9_net_0 (j := 20) (n := 65) rfl) (by decide)
theorem dX9_net_21 : decode cX9_net 21 = .ok (.aload_n 0, 1) := dq_42 (hz_wg wX9_net_0 (j := 21) (n := 42) rfl)
theorem dX9_net_22 : decode cX9_net 22 = .ok (.getfield 48, 3) := dq_180 (hz_wg wX9_net_0 (j := 22) (n := 180) rfl) (hz_wg wX9_net_0 (j := 23) (n := 0) rfl) (hz_wg wX9_net_0 (j := 24) (n := 48) rfl) rfl
theorem dX9_net_25 : decode cX9_net 25 = .ok (.iload_n 1, 1) := dq_27 (hz_wg wX9_net_0 (j := 25) (n := 27) rfl)
theorem dX9_net_26 : decode cX9_net 26 = .ok (.aaload, 1) := dq_50 (hz_wg wX9_net_0 (j := 26) (n := 50) rfl)
theorem dX9_net_27 : decode cX9_net 27 = .ok (.astore_n 2, 1) := dq_77 (hz_wg wX9_net_0 (j := 27) (n := 77) rfl)
theorem dX9_net_28 : decode cX9_net 28 = .ok (.aload_n 0, 1) := dq_42 (hz_wg wX9_net_0 (j := 28) (n := 42) rfl)
theorem dX9_net_29 : decode cX9_net 29 = .ok (.getfield 66, 3) := dq_180 (hz_wg wX9_net_0 (j := 29) (n := 180) rfl) (hz_wg wX9_net_0 (j := 30) (n := 0) rfl) (hz_wg wX9_net_0 (j := 31) (n := 66) rfl) rfl
theorem dX9_net_32 : decode cX9_net 32 = .ok (.iload_n 1, 1) := dq_27 (hz_wg wX9_net_0 (j := 32) (n := 27) rfl)
theorem dX9_net_33 : decode cX9_net 33 = .ok (.aload_n 2, 1) := dq_44 (hz_wg wX9_net_0 (j := 33) (n := 44) rfl)
theorem dX9_net_34 : decode cX9_net 34 = .ok (.aload_n 0, 1) := dq_42 (hz_wg wX9_net_0 (j := 34) (n := 42) rfl)
theorem dX9_net_35 : decode cX9_net 35 = .ok (.getfield 58, 3) := dq_180 (hz_wg wX9_net_0 (j := 35) (n := 180) rfl) (hz_wg wX9_net_0 (j := 36) (n := 0) rfl) (hz_wg wX9_net_0 (j := 37) (n := 58) rfl) rfl
theorem dX9_net_38 : decode cX9_net 38 = .ok (.aload_n 0, 1) := dq_42 (hz_wg wX9_net_0 (j := 38) (n := 42) rfl)
theorem dX9_net_39 : decode cX9_net 39 = .ok (.getfield 94, 3) := dq_180 (hz_wg wX9_net_0 (j := 39) (n := 180) rfl) (hz_wg wX9_net_0 (j := 40) (n := 0) rfl) (hz_wg wX9_net_0 (j := 41) (n := 94) rfl) rfl
theorem dX9_net_42 : decode cX9_net 42 = .ok (.aload_n 0, 1) := dq_42 (hz_wg wX9_net_0 (j := 42) (n := 42) rfl)
theorem dX9_net_43 : decode cX9_net 43 = .ok (.getfield 94, 3) := dq_180 (hz_wg wX9_net_0 (j := 43) (n := 180) rfl) (hz_wg wX9_net_0 (j := 44) (n := 0) rfl) (hz_wg wX9_net_0 (j := 45) (n := 94) rfl) rfl
theorem dX9_net_46 : decode cX9_net 46 = .ok (.invokevirtual 302, 3) := dq_182 (hz_wg wX9_net_0 (j := 46) (n := 182) rfl) (hz_wg wX9_net_0 (j := 47) (n := 1) rfl) (hz_wg wX9_net_0 (j := 48) (n := 46) rfl) rfl
theorem dX9_net_49 : decode cX9_net 49 = .ok (.iastore, 1) := dq_79 (hz_wg wX9_net_0 (j := 49) (n := 79) rfl)
theorem dX9_net_50 : decode cX9_net 50 = .ok (.aload_n 0, 1) := dq_42 (hz_wg wX9_net_0 (j := 50) (n := 42) rfl)
theorem dX9_net_51 : decode cX9_net 51 = .ok (.getfield 79, 3) := dq_180 (hz_wg wX9_net_0 (j := 51) (n := 180) rfl) (hz_wg wX9_net_0 (j := 52) (n := 0) rfl) (hz_wg wX9_net_0 (j := 53) (n := 79) rfl) rfl
theorem dX9_net_54 : decode cX9_net 54 = .ok (.aload_n 2, 1) := dq_44 (hz_wg wX9_net_0 (j := 54) (n := 44) rfl)
theorem dX9_net_55 : decode cX9_net 55 = .ok (.getfield 212, 3) := dq_180 (hz_wg wX9_net_0 (j := 55) (n := 180) rfl) (hz_wg wX9_net_0 (j := 56) (n := 0) rfl) (hz_wg wX9_net_0 (j := 57) (n := 212) rfl) rfl
theorem dX9_net_58 : decode cX9_net 58 = .ok (.getfield 143, 3) := dq_180 (hz_wg wX9_net_0 (j := 58) (n := 180) rfl) (hz_wg wX9_net_0 (j := 59) (n := 0) rfl) (hz_wg wX9_net_0 (j := 60) (n := 143) rfl) rfl
theorem dX9_net_61 : decode cX9_net 61 = .ok (.aload_n 2, 1) := dq_44 (hz_wg wX9_net_0 (j := 61) (n := 44) rfl)
theorem dX9_net_62 : decode cX9_net 62 = .ok (.getfield 223, 3) := dq_180 (hz_wg wX9_net_0 (j := 62) (n := 180) rfl) (hz_wg wX9_net_0 (j := 63) (n := 0) rfl) (hz_wg wX9_net_1 (j := 0) (n := 223) rfl) rfl
theorem dX9_net_65 : decode cX9_net 65 = .ok (.getfield 143, 3) := dq_180 (hz_wg wX9_net_1 (j := 1) (n := 180) rfl) (hz_wg wX9_net_1 (j := 2) (n := 0) rfl) (hz_wg wX9_net_1 (j := 3) (n := 143) rfl) rfl
theorem dX9_net_68 : decode cX9_net 68 = .ok (.aload_n 0, 1) := dq_42 (hz_wg wX9_net_1 (j := 4) (n := 42) rfl)
theorem dX9_net_69 : decode cX9_net 69 = .ok (.getfield 66, 3) := dq_180 (hz_wg wX9_net_1 (j := 5) (n := 180) rfl) (hz_wg wX9_net_1 (j := 6) (n := 0) rfl) (hz_wg wX9_net_1 (j := 7) (n := 66) rfl) rfl
theorem dX9_net_72 : decode cX9_net 72 = .ok (.iload_n 1, 1) := dq_27 (hz_wg wX9_net_1 (j := 8) (n := 27) rfl)
theorem dX9_net_73 : decode cX9_net 73 = .ok (.iaload, 1) := dq_46 (hz_wg wX9_net_1 (j := 9) (n := 46) rfl)
theorem dX9_net_74 : decode cX9_net 74 = .ok (.invokevirtual 348, 3) := dq_182 (hz_wg wX9_net_1 (j := 10) (n := 182) rfl) (hz_wg wX9_net_1 (j := 11) (n := 1) rfl) (hz_wg wX9_net_1 (j := 12) (n := 92) rfl) rfl
theorem dX9_net_77 : decode cX9_net 77 = .ok (.iinc 1 1, 3) := dq_132 (hz_wg wX9_net_1 (j := 13) (n := 132) rfl) (hz_wg wX9_net_1 (j := 14) (n := 1) rfl) (hz_wg wX9_net_1 (j := 15) (n := 1) rfl) (by decide)
theorem dX9_net_80 : decode cX9_net 80 = .ok (.goto (-67), 3) := dq_167 (hz_wg wX9_net_1 (j := 16) (n := 167) rfl) (hz_wg wX9_net_1 (j := 17) (n := 255) rfl) (hz_wg wX9_net_1 (j := 18) (n := 189) rfl) (by decide)
theorem dX9_net_83 : decode cX9_net 83 = .ok (.iconst 0, 1) := dq_3 (hz_wg wX9_net_1 (j := 19) (n := 3) rfl)
theorem dX9_net_84 : decode cX9_net 84 = .ok (.istore_n 1, 1) := dq_60 (hz_wg wX9_net_1 (j := 20) (n := 60) rfl)
theorem dX9_net_85 : decode cX9_net 85 = .ok (.iconst 0, 1) := dq_3 (hz_wg wX9_net_1 (j := 21) (n := 3) rfl)
theorem dX9_net_86 : decode cX9_net 86 = .ok (.istore_n 2, 1) := dq_61 (hz_wg wX9_net_1 (j := 22) (n := 61) rfl)
theorem dX9_net_87 : decode cX9_net 87 = .ok (.iload_n 2, 1) := dq_28 (hz_wg wX9_net_1 (j := 23) (n := 28) rfl)
theorem dX9_net_88 : decode cX9_net 88 = .ok (.bipush 100, 2) := dq_16 (hz_wg wX9_net_1 (j := 24) (n := 16) rfl) (hz_wg wX9_net_1 (j := 25) (n := 100) rfl) (by decide)
theorem dX9_net_90 : decode cX9_net 90 = .ok (.if_icmp .ge 44, 3) := dq_162 (hz_wg wX9_net_1 (j := 26) (n := 162) rfl) (hz_wg wX9_net_1 (j := 27) (n := 0) rfl) (hz_wg wX9_net_1 (j := 28) (n := 44) rfl) (by decide)
theorem dX9_net_93 : decode cX9_net 93 = .ok (.aload_n 0, 1) := dq_42 (hz_wg wX9_net_1 (j := 29) (n := 42) rfl)
theorem dX9_net_94 : decode cX9_net 94 = .ok (.getfield 79, 3) := dq_180 (hz_wg wX9_net_1 (j := 30) (n := 180) rfl) (hz_wg wX9_net_1 (j := 31) (n := 0) rfl) (hz_wg wX9_net_1 (j := 32) (n := 79) rfl) rfl
theorem dX9_net_97 : decode cX9_net 97 = .ok (.invokevirtual 351, 3) := dq_182 (hz_wg wX9_net_1 (j := 33) (n := 182) rfl) (hz_wg wX9_net_1 (j := 34) (n := 1) rfl) (hz_wg wX9_net_1 (j := 35) (n := 95) rfl) rfl
theorem dX9_net_100 : decode cX9_net 100 = .ok (.ifCond .eq 34, 3) := dq_153 (hz_wg wX9_net_1 (j := 36) (n := 153) rfl) (hz_wg wX9_net_1 (j := 37) (n := 0) rfl) (hz_wg wX9_net_1 (j := 38) (n := 34) rfl) (by decide)
theorem dX9_net_103 : decode cX9_net 103 = .ok (.aload_n 0, 1) := dq_42 (hz_wg wX9_net_1 (j := 39) (n := 42) rfl)
theorem dX9_net_104 : decode cX9_net 104 = .ok (.invokevirtual 355, 3) := dq_182 (hz_wg wX9_net_1 (j := 40) (n := 182) rfl) (hz_wg wX9_net_1 (j := 41) (n := 1) rfl) (hz_wg wX9_net_1 (j := 42) (n := 99) rfl) rfl
theorem dX9_net_107 : decode cX9_net 107 = .ok (.sipush 600, 3) := dq_17 (hz_wg wX9_net_1 (j := 43) (n := 17) rfl) (hz_wg wX9_net_1 (j := 44) (n := 2) rfl) (hz_wg wX9_net_1 (j := 45) (n := 88) rfl) (by decide)
theorem dX9_net_110 : decode cX9_net 110 = .ok (.aload_n 0, 1) := dq_42 (hz_wg wX9_net_1 (j := 46) (n := 42) rfl)
theorem dX9_net_111 : decode cX9_net 111 = .ok (.getfield 58, 3) := dq_180 (hz_wg wX9_net_1 (j := 47) (n := 180) rfl) (hz_wg wX9_net_1 (j := 48) (n := 0) rfl) (hz_wg wX9_net_1 (j := 49) (n := 58) rfl) rfl
theorem dX9_net_114 : decode cX9_net 114 = .ok (.getfield 278, 3) := dq_180 (hz_wg wX9_net_1 (j := 50) (n := 180) rfl) (hz_wg wX9_net_1 (j := 51) (n := 1) rfl) (hz_wg wX9_net_1 (j := 52) (n := 22) rfl) rfl
theorem dX9_net_117 : decode cX9_net 117 = .ok (.isub, 1) := dq_100 (hz_wg wX9_net_1 (j := 53) (n := 100) rfl)
theorem dX9_net_118 : decode cX9_net 118 = .ok (.if_icmp .gt 16, 3) := dq_163 (hz_wg wX9_net_1 (j := 54) (n := 163) rfl) (hz_wg wX9_net_1 (j := 55) (n := 0) rfl) (hz_wg wX9_net_1 (j := 56) (n := 16) rfl) (by decide)
theorem dX9_net_121 : decode cX9_net 121 = .ok (.iload_n 1, 1) := dq_27 (hz_wg wX9_net_1 (j := 57) (n := 27) rfl)
theorem dX9_net_122 : decode cX9_net 122 = .ok (.aload_n 0, 1) := dq_42 (hz_wg wX9_net_1 (j := 58) (n := 42) rfl)
theorem dX9_net_123 : decode cX9_net 123 = .ok (.invokevirtual 358, 3) := dq_182 (hz_wg wX9_net_1 (j := 59) (n := 182) rfl) (hz_wg wX9_net_1 (j := 60) (n := 1) rfl) (hz_wg wX9_net_1 (j := 61) (n := 102) rfl) rfl
theorem dX9_net_126 : decode cX9_net 126 = .ok (.iadd, 1) := dq_96 (hz_wg wX9_net_1 (j := 62) (n := 96) rfl)
theorem dX9_net_127 : decode cX9_net 127 = .ok (.istore_n 1, 1) := dq_60 (hz_wg wX9_net_1 (j := 63) (n := 60) rfl)
theorem dX9_net_128 : decode cX9_net 128 = .ok (.iinc 2 1, 3) := dq_132 (hz_wg wX9_net_2 (j := 0) (n := 132) rfl) (hz_wg wX9_net_2 (j := 1) (n := 2) rfl) (hz_wg wX9_net_2 (j := 2) (n := 1) rfl) (by decide)
theorem dX9_net_131 : decode cX9_net 131 = .ok (.goto (-44), 3) := dq_167 (hz_wg wX9_net_2 (j := 3) (n := 167) rfl) (hz_wg wX9_net_2 (j := 4) (n := 255) rfl) (hz_wg wX9_net_2 (j := 5) (n := 212) rfl) (by decide)
theorem dX9_net_134 : decode cX9_net 134 = .ok (.iload_n 1, 1) := dq_27 (hz_wg wX9_net_2 (j := 6) (n := 27) rfl)
theorem dX9_net_135 : decode cX9_net 135 = .ok (.ireturn, 1) := dq_172 (hz_wg wX9_net_2 (j := 7) (n := 172) rfl)