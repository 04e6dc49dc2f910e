def wLX10_looks_0 : List Nat := [42, 3, 181, 1, 142, 42, 3, 181, 1, 145, 42, 3, 181, 1, 148, 42, 3, 181, 1, 151, 42, 42, 180, 0, 108, 27, 46, 2, 159, 0, 17, 42, 180, 0, 108, 27, 46, 28, 163, 0, 7, 4, 167, 0, 4, 3, 181, 1, 154, 42, 180, 0, 111, 27, 46, 2, 159, 0, 32, 42, 180, 0, 111, 27]
def wLX10_looks_1 : List Nat := [46, 28, 163, 0, 22, 42, 42, 180, 0, 123, 27, 46, 8, 160, 0, 7, 6, 167, 0, 4, 5, 181, 1, 154, 42, 180, 0, 114, 27, 46, 2, 159, 0, 13, 42, 180, 0, 114, 27, 46, 28, 164, 0, 4, 177, 42, 180, 0, 117, 27, 46, 2, 159, 0, 17, 42, 180, 0, 117, 27, 46, 28, 163, 0]
def wLX10_looks_2 : List Nat := [7, 4, 167, 0, 4, 3, 54, 4, 3, 54, 5, 21, 5, 42, 180, 1, 157, 162, 0, 80, 42, 180, 0, 144, 21, 5, 46, 27, 160, 0, 63, 42, 180, 0, 147, 21, 5, 46, 28, 163, 0, 52, 42, 180, 0, 153, 21, 5, 46, 29, 163, 0, 41, 42, 180, 0, 156, 21, 5, 46, 2, 159, 0, 14]
def wLX10_looks_3 : List Nat := [42, 180, 0, 156, 21, 5, 46, 29, 164, 0, 19, 42, 89, 180, 1, 142, 42, 180, 0, 150, 21, 5, 46, 96, 181, 1, 142, 132, 5, 1, 167, 255, 173, 42, 89, 180, 1, 142, 21, 4, 153, 0, 12, 42, 180, 0, 138, 27, 46, 167, 0, 4, 3, 96, 181, 1, 142, 42, 180, 0, 135, 27, 46, 21]
def wLX10_looks_4 : List Nat := [4, 153, 0, 18, 42, 42, 180, 0, 102, 27, 46, 16, 12, 182, 1, 77, 167, 0, 4, 3, 96, 54, 5, 42, 180, 0, 120, 27, 46, 2, 159, 0, 20, 42, 180, 0, 120, 27, 46, 28, 163, 0, 10, 42, 16, 8, 181, 1, 154, 177, 42, 21, 5, 42, 180, 1, 142, 164, 0, 13, 21, 5, 42, 180]
def wLX10_looks_5 : List Nat := [1, 142, 100, 167, 0, 4, 3, 181, 1, 145, 42, 42, 180, 1, 142, 21, 5, 164, 0, 13, 42, 180, 1, 142, 21, 5, 100, 167, 0, 4, 3, 181, 1, 148, 28, 42, 180, 0, 114, 27, 46, 100, 16, 7, 108, 54, 6, 42, 180, 0, 132, 27, 46, 21, 6, 104, 21, 5, 162, 0, 15, 42, 180, 0]
def wLX10_looks_6 : List Nat := [132, 27, 46, 21, 6, 104, 167, 0, 5, 21, 5, 54, 7, 42, 21, 7, 42, 180, 1, 142, 164, 0, 29, 21, 7, 42, 180, 1, 142, 100, 42, 180, 0, 132, 27, 46, 96, 4, 100, 42, 180, 0, 132, 27, 46, 108, 167, 0, 4, 3, 181, 1, 151, 42, 42, 180, 0, 102, 27, 46, 7, 182, 1, 77]
def wLX10_looks_7 : List Nat := [54, 8, 42, 42, 180, 1, 145, 154, 0, 8, 16, 7, 167, 0, 43, 42, 180, 1, 151, 21, 8, 42, 42, 180, 0, 102, 27, 46, 8, 182, 1, 77, 96, 161, 0, 8, 16, 6, 167, 0, 17, 42, 180, 1, 151, 21, 8, 161, 0, 7, 8, 167, 0, 4, 7, 181, 1, 154, 177]
theorem wX10_looks_0 : (cX10_looks.data.toList.map UInt8.toNat).drop 0 = wLX10_looks_0 ++ (wLX10_looks_1 ++ (wLX10_looks_2 ++ (wLX10_looks_3 ++ (wLX10_looks_4 ++ (wLX10_looks_5 ++ (wLX10_looks_6 ++ (wLX10_looks_7 ++ ([])))))))) := by decide +kernel
theorem wX10_looks_1 : (cX10_looks.data.toList.map UInt8.toNat).drop 64 = wLX10_looks_1 ++ (wLX10_looks_2 ++ (wLX10_looks_3 ++ (wLX10_looks_4 ++ (wLX10_looks_5 ++ (wLX10_looks_6 ++ (wLX10_looks_7 ++ ([]))))))) := hz_wn wX10_looks_0 rfl
theorem wX10_looks_2 : (cX10_looks.data.toList.map UInt8.toNat).drop 128 = wLX10_looks_2 ++ (wLX10_looks_3 ++ (wLX10_looks_4 ++ (wLX10_looks_5 ++ (wLX10_looks_6 ++ (wLX10_looks_7 ++ ([])))))) := hz_wn wX10_looks_1 rfl
theorem wX10_looks_3 : (cX10_looks.data.toList.map UInt8.toNat).drop 192 = wLX10_looks_3 ++ (wLX10_looks_4 ++ (wLX10_looks_5 ++ (wLX10_looks_6 ++ (wLX10_looks_7 ++ ([]))))) := hz_wn wX10_looks_2 rfl
theorem wX10_looks_4 : (cX10_looks.data.toList.map UInt8.toNat).drop 256 = wLX10_looks_4 ++ (wLX10_looks_5 ++ (wLX10_looks_6 ++ (wLX10_looks_7 ++ ([])))) := hz_wn wX10_looks_3 rfl
theorem wX10_looks_5 : (cX10_looks.data.toList.map UInt8.toNat).drop 320 = wLX10_looks_5 ++ (wLX10_looks_6 ++ (wLX10_looks_7 ++ ([]))) := hz_wn wX10_looks_4 rfl
theorem wX10_looks_6 : (cX10_looks.data.toList.map UInt8.toNat).drop 384 = wLX10_looks_6 ++ (wLX10_looks_7 ++ ([])) := hz_wn wX10_looks_5 rfl
theorem wX10_looks_7 : (cX10_looks.data.toList.map UInt8.toNat).drop 448 = wLX10_looks_7 ++ ([]) := hz_wn wX10_looks_6 rfl
theorem dX10_looks_0 : decode cX10_looks 0 = .ok (.aload_n 0, 1) := dq_42 (hz_wg wX10_looks_0 (j := 0) (n := 42) rfl)
theorem dX10_looks_1 : decode cX10_looks 1 = .ok (.iconst 0, 1) := dq_3 (hz_wg wX10_looks_0 (j := 1) (n := 3) rfl)
theorem dX10_looks_2 : decode cX10_looks 2 = .ok (.putfield 398, 3) := dq_181 (hz_wg wX10_looks_0 (j := 2) (n := 181) rfl) (hz_wg wX10_looks_0 (j := 3) (n := 1) rfl) (hz_wg wX10_looks_0 (j := 4) (n := 142) rfl) rfl
theorem dX10_looks_5 : decode cX10_looks 5 = .ok (.aload_n 0, 1) := dq_42 (hz_wg wX10_looks_0 (j := 5) (n := 42) rfl)
theorem dX10_looks_6 : decode cX10_looks 6 = .ok (.iconst 0, 1) := dq_3 (hz_wg wX10_looks_0 (j := 6) (n := 3) rfl)
theorem dX10_looks_7 : decode cX10_looks 7 = .ok (.putfield 401, 3) := dq_181 (hz_wg wX10_looks_0 (j := 7) (n := 181) rfl) (hz_wg wX10_looks_0 (j := 8) (n := 1) rfl) (hz_wg wX10_looks_0 (j := 9) (n := 145) rfl) rfl
theorem dX10_looks_10 : decode cX10_looks 10 = .ok (.aload_n 0, 1) := dq_42 (hz_wg wX10_looks_0 (j := 10) (n := 42) rfl)
theorem dX10_looks_11 : decode cX10_looks 11 = .ok (.iconst 0, 1) := dq_3 (hz_wg wX10_looks_0 (j := 11) (n := 3) rfl)
theorem dX10_looks_12 : decode cX10_looks 12 = .ok (.putfield 404, 3) := dq_181 (hz_wg wX10_looks_0 (j := 12) (n := 181) rfl) (hz_wg wX10_looks_0 (j := 13) (n := 1) rfl) (hz_wg wX10_looks_0 (j := 14) (n := 148) rfl) rfl
theorem dX10_looks_15 : decode cX10_looks 15 = .ok (.aload_n 0, 1) := dq_42 (hz_wg wX10_looks_0 (j := 15) (n := 42) rfl)
theorem dX10_looks_16 : decode cX10_looks 16 = .ok (.iconst 0, 1) := dq_3 (hz_wg wX10_looks_0 (j := 16) (n := 3) rfl)
theorem dX10_looks_17 : decode cX10_looks 17 = .ok (.putfield 407, 3) := dq_181 (hz_wg wX10_looks_0 (j := 17) (n := 181) rfl) (hz_wg wX10_looks_0 (j := 18) (n := 1) rfl) (hz_wg wX10_looks_0 (j := 19) (n := 151) rfl) rfl
theorem dX10_looks_20 : decode cX10_looks 20 = .ok (.aload_n 0, 1) := dq_42 (hz_wg wX10_looks_0 (j := 20) (n := 42) rfl)
theorem dX10_looks_21 : decode cX10_looks 21 = .ok (.aload_n 0, 1) := dq_42 (hz_wg wX10_looks_0 (j := 21) (n := 42) rfl)
theorem dX10_looks_22 : decode cX10_looks 22 = .ok (.getfield 108, 3) := dq_180 (hz_wg wX10_looks_0 (j := 22) (n := 180) rfl) (hz_wg wX10_looks_0 (j := 23) (n := 0) rfl) (hz_wg wX10_looks_0 (j := 24) (n := 108) rfl) rfl
theorem dX10_looks_25 : decode cX10_looks 25 = .ok (.iload_n 1, 1) := dq_27 (hz_wg wX10_looks_0 (j := 25) (n := 27) rfl)
theorem dX10_looks_26 : decode cX10_looks 26 = .ok (.iaload, 1) := dq_46 (hz_wg wX10_looks_0 (j := 26) (n := 46) rfl)
theorem dX10_looks_27 : decode cX10_looks 27 = .ok (.iconst (-1), 1) := dq_2 (hz_wg wX10_looks_0 (j := 27) (n := 2) rfl)
theorem dX10_looks_28 : decode cX10_looks 28 = .ok (.if_icmp .eq 17, 3) := dq_159 (hz_wg wX10_looks_0 (j := 28) (n := 159) rfl) (hz_wg wX10_looks_0 (j := 29) (n := 0) rfl) (hz_wg wX10_looks_0 (j := 30) (n := 17) rfl) (by decide)
theorem dX10_looks_31 : decode cX10_looks 31 = .ok (.aload_n 0, 1) := dq_42 (hz_wg wX10_looks_0 (j := 31) (n := 42) rfl)
theorem dX10_looks_32 : decode cX10_looks 32 = .ok (.getfield 108, 3) := dq_180 (hz_wg wX10_looks_0 (j := 32) (n := 180) rfl) (hz_wg wX10_looks_0 (j := 33) (n := 0) rfl) (hz_wg wX10_looks_0 (j := 34) (n := 108) rfl) rfl
theorem dX10_looks_35 : decode cX10_looks 35 = .ok (.iload_n 1, 1) := dq_27 (hz_wg wX10_looks_0 (j := 35) (n := 27) rfl)
theorem dX10_looks_36 : decode cX10_looks 36 = .ok (.iaload, 1) := dq_46 (hz_wg wX10_looks_0 (j := 36) (n := 46) rfl)
theorem dX10_looks_37 : decode cX10_looks 37 = .ok (.iload_n 2, 1) := dq_28 (hz_wg wX10_looks_0 (j := 37) (n := 28) rfl)
theorem dX10_looks_38 : decode cX10_looks 38 = .ok (.if_icmp .gt 7, 3) := dq_163 (hz_wg wX10_looks_0 (j := 38) (n := 163) rfl) (hz_wg wX10_looks_0 (j := 39) (n := 0) rfl) (hz_wg wX10_looks_0 (j := 40) (n := 7) rfl) (by decide)
theorem dX10_looks_41 : decode cX10_looks 41 = .ok (.iconst 1, 1) := dq_4 (hz_wg wX10_looks_0 (j := 41) (n := 4) rfl)
theorem dX10_looks_42 : decode cX10_looks 42 = .ok (.goto 4, 3) := dq_167 (hz_wg wX10_looks_0 (j := 42) (n := 167) rfl) (hz_wg wX10_looks_0 (j := 43) (n := 0) rfl) (hz_wg wX10_looks_0 (j := 44) (n := 4) rfl) (by decide)
theorem dX10_looks_45 : decode cX10_looks 45 = .ok (.iconst 0, 1) := dq_3 (hz_wg wX10_looks_0 (j := 45) (n := 3) rfl)
theorem dX10_looks_46 : decode cX10_looks 46 = .ok (.putfield 410, 3) := dq_181 (hz_wg wX10_looks_0 (j := 46) (n := 181) rfl) (hz_wg wX10_looks_0 (j := 47) (n := 1) rfl) (hz_wg wX10_looks_0 (j := 48) (n := 154) rfl) rfl
theorem dX10_looks_49 : decode cX10_looks 49 = .ok (.aload_n 0, 1) := dq_42 (hz_wg wX10_looks_0 (j := 49) (n := 42) rfl)
theorem dX10_looks_50 : decode cX10_looks 50 = .ok (.getfield 111, 3) := dq_180 (hz_wg wX10_looks_0 (j := 50) (n := 180) rfl) (hz_wg wX10_looks_0 (j := 51) (n := 0) rfl) (hz_wg wX10_looks_0 (j := 52) (n := 111) rfl) rfl
theorem dX10_looks_53 : decode cX10_looks 53 = .ok (.iload_n 1, 1) := dq_27 (hz_wg wX10_looks_0 (j := 53) (n := 27) rfl)
theorem dX10_looks_54 : decode cX10_looks 54 = .ok (.iaload, 1) := dq_46 (hz_wg wX10_looks_0 (j := 54) (n := 46) rfl)
theorem dX10_looks_55 : decode cX10_looks 55 = .ok (.iconst (-1), 1) := dq_2 (hz_wg wX10_looks_0 (j := 55) (n := 2) rfl)
theorem dX10_looks_56 : decode cX10_looks 56 = .ok (.if_icmp .eq 32, 3) := dq_159 (hz_wg wX10_looks_0 (j := 56) (n := 159) rfl) (hz_wg wX10_looks_0 (j := 57) (n := 0) rfl) (hz_wg wX10_looks_0 (j := 58) (n := 32) rfl) (by decide)
theorem dX10_looks_59 : decode cX10_looks 59 = .ok (.aload_n 0, 1) := dq_42 (hz_wg wX10_looks_0 (j := 59) (n := 42) rfl)
theorem dX10_looks_60 : decode cX10_looks 60 = .ok (.getfield 111, 3) := dq_180 (hz_wg wX10_looks_0 (j := 60) (n := 180) rfl) (hz_wg wX10_looks_0 (j := 61) (n := 0) rfl) (hz_wg wX10_looks_0 (j := 62) (n := 111) rfl) rfl
theorem dX10_looks_63 : decode cX10_looks 63 = .ok (.iload_n 1, 1) := dq_27 (hz_wg wX10_looks_0 (j := 63) (n := 27) rfl)
theorem dX10_looks_64 : decode cX10_looks 64 = .ok (.iaload, 1) := dq_46 (hz_wg wX10_looks_1 (j := 0) (n := 46) rfl)
theorem dX10_looks_65 : decode cX10_looks 65 = .ok (.iload_n 2, 1) := dq_28 (hz_wg wX10_looks_1 (j := 1) (n := 28) rfl)
theorem dX10_looks_66 : decode cX10_looks 66 = .ok (.if_icmp .gt 22, 3) := dq_163 (hz_wg wX10_looks_1 (j := 2) (n := 163) rfl) (hz_wg wX10_looks_1 (j := 3) (n := 0) rfl) (hz_wg wX10_looks_1 (j := 4) (n := 22) rfl) (by decide)
theorem dX10_looks_69 : decode cX10_looks 69 = .ok (.aload_n 0, 1) := dq_42 (hz_wg wX10_looks_1 (j := 5) (n := 42) rfl)
theorem dX10_looks_70 : decode cX10_looks 70 = .ok (.aload_n 0, 1) := dq_42 (hz_wg wX10_looks_1 (j := 6) (n := 42) rfl)
theorem dX10_looks_71 : decode cX10_looks 71 = .ok (.getfield 123, 3) := dq_180 (hz_wg wX10_looks_1 (j := 7) (n := 180) rfl) (hz_wg wX10_looks_1 (j := 8) (n := 0) rfl) (hz_wg wX10_looks_1 (j := 9) (n := 123) rfl) rfl
theorem dX10_looks_74 : decode cX10_looks 74 = .ok (.iload_n 1, 1) := dq_27 (hz_wg wX10_looks_1 (j := 10) (n := 27) rfl)
theorem dX10_looks_75 : decode cX10_looks 75 = .ok (.iaload, 1) := dq_46 (hz_wg wX10_looks_1 (j := 11) (n := 46) rfl)
theorem dX10_looks_76 : decode cX10_looks 76 = .ok (.iconst 5, 1) := dq_8 (hz_wg wX10_looks_1 (j := 12) (n := 8) rfl)
theorem dX10_looks_77 : decode cX10_looks 77 = .ok (.if_icmp .ne 7, 3) := dq_160 (hz_wg wX10_looks_1 (j := 13) (n := 160) rfl) (hz_wg wX10_looks_1 (j := 14) (n := 0) rfl) (hz_wg wX10_looks_1 (j := 15) (n := 7) rfl) (by decide)
theorem dX10_looks_80 : decode cX10_looks 80 = .ok (.iconst 3, 1) := dq_6 (hz_wg wX10_looks_1 (j := 16) (n := 6) rfl)
theorem dX10_looks_81 : decode cX10_looks 81 = .ok (.goto 4, 3) := dq_167 (hz_wg wX10_looks_1 (j := 17) (n := 167) rfl) (hz_wg wX10_looks_1 (j := 18) (n := 0) rfl) (hz_wg wX10_looks_1 (j := 19) (n := 4) rfl) (by decide)
theorem dX10_looks_84 : decode cX10_looks 84 = .ok (.iconst 2, 1) := dq_5 (hz_wg wX10_looks_1 (j := 20) (n := 5) rfl)
theorem dX10_looks_85 : decode cX10_looks 85 = .ok (.putfield 410, 3) := dq_181 (hz_wg wX10_looks_1 (j := 21) (n := 181) rfl) (hz_wg wX10_looks_1 (j := 22) (n := 1) rfl) (hz_wg wX10_looks_1 (j := 23) (n := 154) rfl) rfl
theorem dX10_looks_88 : decode cX10_looks 88 = .ok (.aload_n 0, 1) := dq_42 (hz_wg wX10_looks_1 (j := 24) (n := 42) rfl)
theorem dX10_looks_89 : decode cX10_looks 89 = .ok (.getfield 114, 3) := dq_180 (hz_wg wX10_looks_1 (j := 25) (n := 180) rfl) (hz_wg wX10_looks_1 (j := 26) (n := 0) rfl) (hz_wg wX10_looks_1 (j := 27) (n := 114) rfl) rfl
theorem dX10_looks_92 : decode cX10_looks 92 = .ok (.iload_n 1, 1) := dq_27 (hz_wg wX10_looks_1 (j := 28) (n := 27) rfl)
theorem dX10_looks_93 : decode cX10_looks 93 = .ok (.iaload, 1) := dq_46 (hz_wg wX10_looks_1 (j := 29) (n := 46) rfl)
theorem dX10_looks_94 : decode cX10_looks 94 = .ok (.iconst (-1), 1) := dq_2 (hz_wg wX10_looks_1 (j := 30) (n := 2) rfl)
theorem dX10_looks_95 : decode cX10_looks 95 = .ok (.if_icmp .eq 13, 3) := dq_159 (hz_wg wX10_looks_1 (j := 31) (n := 159) rfl) (hz_wg wX10_looks_1 (j := 32) (n := 0) rfl) (hz_wg wX10_looks_1 (j := 33) (n := 13) rfl) (by decide)
theorem dX10_looks_98 : decode cX10_looks 98 = .ok (.aload_n 0, 1) := dq_42 (hz_wg wX10_looks_1 (j := 34) (n := 42) rfl)
theorem dX10_looks_99 : decode cX10_looks 99 = .ok (.getfield 114, 3) := dq_180 (hz_wg wX10_looks_1 (j := 35) (n := 180) rfl) (hz_wg wX10_looks_1 (j := 36) (n := 0) rfl) (hz_wg wX10_looks_1 (j := 37) (n := 114) rfl) rfl
theorem dX10_looks_102 : decode cX10_looks 102 = .ok (.iload_n 1, 1) := dq_27 (hz_wg wX10_looks_1 (j := 38) (n := 27) rfl)
theorem dX10_looks_103 : decode cX10_looks 103 = .ok (.iaload, 1) := dq_46 (hz_wg wX10_looks_1 (j := 39) (n := 46) rfl)
theorem dX10_looks_104 : decode cX10_looks 104 = .ok (.iload_n 2, 1) := dq_28 (hz_wg wX10_looks_1 (j := 40) (n := 28) rfl)
theorem dX10_looks_105 : decode cX10_looks 105 = .ok (.if_icmp .le 4, 3) := dq_164 (hz_wg wX10_looks_1 (j := 41) (n := 164) rfl) (hz_wg wX10_looks_1 (j := 42) (n := 0) rfl) (hz_wg wX10_looks_1 (j := 43) (n := 4) rfl) (by decide)
theorem dX10_looks_108 : decode cX10_looks 108 = .ok (.return_, 1) := dq_177 (hz_wg wX10_looks_1 (j := 44) (n := 177) rfl)
theorem dX10_looks_109 : decode cX10_looks 109 = .ok (.aload_n 0, 1) := dq_42 (hz_wg wX10_looks_1 (j := 45) (n := 42) rfl)
theorem dX10_looks_110 : decode cX10_looks 110 = .ok (.getfield 117, 3) := dq_180 (hz_wg wX10_looks_1 (j := 46) (n := 180) rfl) (hz_wg wX10_looks_1 (j := 47) (n := 0) rfl) (hz_wg wX10_looks_1 (j := 48) (n := 117) rfl) rfl
theorem dX10_looks_113 : decode cX10_looks 113 = .ok (.iload_n 1, 1) := dq_27 (hz_wg wX10_looks_1 (j := 49) (n := 27) rfl)
theorem dX10_looks_114 : decode cX10_looks 114 = .ok (.iaload, 1) := dq_46 (hz_wg wX10_looks_1 (j := 50) (n := 46) rfl)
theorem dX10_looks_115 : decode cX10_looks 115 = .ok (.iconst (-1), 1) := dq_2 (hz_wg wX10_looks_1 (j := 51) (n := 2) rfl)
theorem dX10_looks_116 : decode cX10_looks 116 = .ok (.if_icmp .eq 17, 3) := dq_159 (hz_wg wX10_looks_1 (j := 52) (n := 159) rfl) (hz_wg wX10_looks_1 (j := 53) (n := 0) rfl) (hz_wg wX10_looks_1 (j := 54) (n := 17) rfl) (by decide)
theorem dX10_looks_119 : decode cX10_looks 119 = .ok (.aload_n 0, 1) := dq_42 (hz_wg wX10_looks_1 (j := 55) (n := 42) rfl)
theorem dX10_looks_120 : decode cX10_looks 120 = .ok (.getfield 117, 3) := dq_180 (hz_wg wX10_looks_1 (j := 56) (n := 180) rfl) (hz_wg wX10_looks_1 (j := 57) (n := 0) rfl) (hz_wg wX10_looks_1 (j := 58) (n := 117) rfl) rfl
theorem dX10_looks_123 : decode cX10_looks 123 = .ok (.iload_n 1, 1) := dq_27 (hz_wg wX10_looks_1 (j := 59) (n := 27) rfl)
theorem dX10_looks_124 : decode cX10_looks 124 = .ok (.iaload, 1) := dq_46 (hz_wg wX10_looks_1 (j := 60) (n := 46) rfl)
theorem dX10_looks_125 : decode cX10_looks 125 = .ok (.iload_n 2, 1) := dq_28 (hz_wg wX10_looks_1 (j := 61) (n := 28) rfl)
theorem dX10_looks_126 : decode cX10_looks 126 = .ok (.if_icmp .gt 7, 3) := dq_163 (hz_wg wX10_looks_1 (j := 62) (n := 163) rfl) (hz_wg wX10_looks_1 (j := 63) (n := 0) rfl) (hz_wg wX10_looks_2 (j := 0) (n := 7) rfl) (by decide)
theorem dX10_looks_129 : decode cX10_looks 129 = .ok (.iconst 1, 1) := dq_4 (hz_wg wX10_looks_2 (j := 1) (n := 4) rfl)
theorem dX10_looks_130 : decode cX10_looks 130 = .ok (.goto 4, 3) := dq_167 (hz_wg wX10_looks_2 (j := 2) (n := 167) rfl) (hz_wg wX10_looks_2 (j := 3) (n := 0) rfl) (hz_wg wX10_looks_2 (j := 4) (n := 4) rfl) (by decide)
theorem dX10_looks_133 : decode cX10_looks 133 = .ok (.iconst 0, 1) := dq_3 (hz_wg wX10_looks_2 (j := 5) (n := 3) rfl)
theorem dX10_looks_134 : decode cX10_looks 134 = .ok (.istore 4, 2) := dq_54 (hz_wg wX10_looks_2 (j := 6) (n := 54) rfl) (hz_wg wX10_looks_2 (j := 7) (n := 4) rfl)
theorem dX10_looks_136 : decode cX10_looks 136 = .ok (.iconst 0, 1) := dq_3 (hz_wg wX10_looks_2 (j := 8) (n := 3) rfl)
theorem dX10_looks_137 : decode cX10_looks 137 = .ok (.istore 5, 2) := dq_54 (hz_wg wX10_looks_2 (j := 9) (n := 54) rfl) (hz_wg wX10_looks_2 (j := 10) (n := 5) rfl)
theorem dX10_looks_139 : decode cX10_looks 139 = .ok (.iload 5, 2) := dq_21 (hz_wg wX10_looks_2 (j := 11) (n := 21) rfl) (hz_wg wX10_looks_2 (j := 12) (n := 5) rfl)
theorem dX10_looks_141 : decode cX10_looks 141 = .ok (.aload_n 0, 1) := dq_42 (hz_wg wX10_looks_2 (j := 13) (n := 42) rfl)
theorem dX10_looks_142 : decode cX10_looks 142 = .ok (.getfield 413, 3) := dq_180 (hz_wg wX10_looks_2 (j := 14) (n := 180) rfl) (hz_wg wX10_looks_2 (j := 15) (n := 1) rfl) (hz_wg wX10_looks_2 (j := 16) (n := 157) rfl) rfl
theorem dX10_looks_145 : decode cX10_looks 145 = .ok (.if_icmp .ge 80, 3) := dq_162 (hz_wg wX10_looks_2 (j := 17) (n := 162) rfl) (hz_wg wX10_looks_2 (j := 18) (n := 0) rfl) (hz_wg wX10_looks_2 (j := 19) (n := 80) rfl) (by decide)
theorem dX10_looks_148 : decode cX10_looks 148 = .ok (.aload_n 0, 1) := dq_42 (hz_wg wX10_looks_2 (j := 20) (n := 42) rfl)
theorem dX10_looks_149 : decode cX10_looks 149 = .ok (.getfield 144, 3) := dq_180 (hz_wg wX10_looks_2 (j := 21) (n := 180) rfl) (hz_wg wX10_looks_2 (j := 22) (n := 0) rfl) (hz_wg wX10_looks_2 (j := 23) (n := 144) rfl) rfl
theorem dX10_looks_152 : decode cX10_looks 152 = .ok (.iload 5, 2) := dq_21 (hz_wg wX10_looks_2 (j := 24) (n := 21) rfl) (hz_wg wX10_looks_2 (j := 25) (n := 5) rfl)
theorem dX10_looks_154 : decode cX10_looks 154 = .ok (.iaload, 1) := dq_46 (hz_wg wX10_looks_2 (j := 26) (n := 46) rfl)
theorem dX10_looks_155 : decode cX10_looks 155 = .ok (.iload_n 1, 1) := dq_27 (hz_wg wX10_looks_2 (j := 27) (n := 27) rfl)
theorem dX10_looks_156 : decode cX10_looks 156 = .ok (.if_icmp .ne 63, 3) := dq_160 (hz_wg wX10_looks_2 (j := 28) (n := 160) rfl) (hz_wg wX10_looks_2 (j := 29) (n := 0) rfl) (hz_wg wX10_looks_2 (j := 30) (n := 63) rfl) (by decide)
theorem dX10_looks_159 : decode cX10_looks 159 = .ok (.aload_n 0, 1) := dq_42 (hz_wg wX10_looks_2 (j := 31) (n := 42) rfl)
theorem dX10_looks_160 : decode cX10_looks 160 = .ok (.getfield 147, 3) := dq_180 (hz_wg wX10_looks_2 (j := 32) (n := 180) rfl) (hz_wg wX10_looks_2 (j := 33) (n := 0) rfl) (hz_wg wX10_looks_2 (j := 34) (n := 147) rfl) rfl
theorem dX10_looks_163 : decode cX10_looks 163 = .ok (.iload 5, 2) := dq_21 (hz_wg wX10_looks_2 (j := 35) (n := 21) rfl) (hz_wg wX10_looks_2 (j := 36) (n := 5) rfl)
theorem dX10_looks_165 : decode cX10_looks 165 = .ok (.iaload, 1) := dq_46 (hz_wg wX10_looks_2 (j := 37) (n := 46) rfl)
theorem dX10_looks_166 : decode cX10_looks 166 = .ok (.iload_n 2, 1) := dq_28 (hz_wg wX10_looks_2 (j := 38) (n := 28) rfl)
theorem dX10_looks_167 : decode cX10_looks 167 = .ok (.if_icmp .gt 52, 3) := dq_163 (hz_wg wX10_looks_2 (j := 39) (n := 163) rfl) (hz_wg wX10_looks_2 (j := 40) (n := 0) rfl) (hz_wg wX10_looks_2 (j := 41) (n := 52) rfl) (by decide)
theorem dX10_looks_170 : decode cX10_looks 170 = .ok (.aload_n 0, 1) := dq_42 (hz_wg wX10_looks_2 (j := 42) (n := 42) rfl)
theorem dX10_looks_171 : decode cX10_looks 171 = .ok (.getfield 153, 3) := dq_180 (hz_wg wX10_looks_2 (j := 43) (n := 180) rfl) (hz_wg wX10_looks_2 (j := 44) (n := 0) rfl) (hz_wg wX10_looks_2 (j := 45) (n := 153) rfl) rfl
theorem dX10_looks_174 : decode cX10_looks 174 = .ok (.iload 5, 2) := dq_21 (hz_wg wX10_looks_2 (j := 46) (n := 21) rfl) (hz_wg wX10_looks_2 (j := 47) (n := 5) rfl)
theorem dX10_looks_176 : decode cX10_looks 176 = .ok (.iaload, 1) := dq_46 (hz_wg wX10_looks_2 (j := 48) (n := 46) rfl)
theorem dX10_looks_177 : decode cX10_looks 177 = .ok (.iload_n 3, 1) := dq_29 (hz_wg wX10_looks_2 (j := 49) (n := 29) rfl)
theorem dX10_looks_178 : decode cX10_looks 178 = .ok (.if_icmp .gt 41, 3) := dq_163 (hz_wg wX10_looks_2 (j := 50) (n := 163) rfl) (hz_wg wX10_looks_2 (j := 51) (n := 0) rfl) (hz_wg wX10_looks_2 (j := 52) (n := 41) rfl) (by decide)
theorem dX10_looks_181 : decode cX10_looks 181 = .ok (.aload_n 0, 1) := dq_42 (hz_wg wX10_looks_2 (j := 53) (n := 42) rfl)
theorem dX10_looks_182 : decode cX10_looks 182 = .ok (.getfield 156, 3) := dq_180 (hz_wg wX10_looks_2 (j := 54) (n := 180) rfl) (hz_wg wX10_looks_2 (j := 55) (n := 0) rfl) (hz_wg wX10_looks_2 (j := 56) (n := 156) rfl) rfl
theorem dX10_looks_185 : decode cX10_looks 185 = .ok (.iload 5, 2) := dq_21 (hz_wg wX10_looks_2 (j := 57) (n := 21) rfl) (hz_wg wX10_looks_2 (j := 58) (n := 5) rfl)
theorem dX10_looks_187 : decode cX10_looks 187 = .ok (.iaload, 1) := dq_46 (hz_wg wX10_looks_2 (j := 59) (n := 46) rfl)
theorem dX10_looks_188 : decode cX10_looks 188 = .ok (.iconst (-1), 1) := dq_2 (hz_wg wX10_looks_2 (j := 60) (n := 2) rfl)
theorem dX10_looks_189 : decode cX10_looks 189 = .ok (.if_icmp .eq 14, 3) := dq_159 (hz_wg wX10_looks_2 (j := 61) (n := 159) rfl) (hz_wg wX10_looks_2 (j := 62) (n := 0) rfl) (hz_wg wX10_looks_2 (j := 63) (n := 14) rfl) (by decide)
theorem dX10_looks_192 : decode cX10_looks 192 = .ok (.aload_n 0, 1) := dq_42 (hz_wg wX10_looks_3 (j := 0) (n := 42) rfl)
theorem dX10_looks_193 : decode cX10_looks 193 = .ok (.getfield 156, 3) := dq_180 (hz_wg wX10_looks_3 (j := 1) (n := 180) rfl) (hz_wg wX10_looks_3 (j := 2) (n := 0) rfl) (hz_wg wX10_looks_3 (j := 3) (n := 156) rfl) rfl
theorem dX10_looks_196 : decode cX10_looks 196 = .ok (.iload 5, 2) := dq_21 (hz_wg wX10_looks_3 (j := 4) (n := 21) rfl) (hz_wg wX10_looks_3 (j := 5) (n := 5) rfl)
theorem dX10_looks_198 : decode cX10_looks 198 = .ok (.iaload, 1) := dq_46 (hz_wg wX10_looks_3 (j := 6) (n := 46) rfl)
theorem dX10_looks_199 : decode cX10_looks 199 = .ok (.iload_n 3, 1) := dq_29 (hz_wg wX10_looks_3 (j := 7) (n := 29) rfl)
theorem dX10_looks_200 : decode cX10_looks 200 = .ok (.if_icmp .le 19, 3) := dq_164 (hz_wg wX10_looks_3 (j := 8) (n := 164) rfl) (hz_wg wX10_looks_3 (j := 9) (n := 0) rfl) (hz_wg wX10_looks_3 (j := 10) (n := 19) rfl) (by decide)
theorem dX10_looks_203 : decode cX10_looks 203 = .ok (.aload_n 0, 1) := dq_42 (hz_wg wX10_looks_3 (j := 11) (n := 42) rfl)
theorem dX10_looks_204 : decode cX10_looks 204 = .ok (.dup, 1) := dq_89 (hz_wg wX10_looks_3 (j := 12) (n := 89) rfl)
theorem dX10_looks_205 : decode cX10_looks 205 = .ok (.getfield 398, 3) := dq_180 (hz_wg wX10_looks_3 (j := 13) (n := 180) rfl) (hz_wg wX10_looks_3 (j := 14) (n := 1) rfl) (hz_wg wX10_looks_3 (j := 15) (n := 142) rfl) rfl
theorem dX10_looks_208 : decode cX10_looks 208 = .ok (.aload_n 0, 1) := dq_42 (hz_wg wX10_looks_3 (j := 16) (n := 42) rfl)
theorem dX10_looks_209 : decode cX10_looks 209 = .ok (.getfield 150, 3) := dq_180 (hz_wg wX10_looks_3 (j := 17) (n := 180) rfl) (hz_wg wX10_looks_3 (j := 18) (n := 0) rfl) (hz_wg wX10_looks_3 (j := 19) (n := 150) rfl) rfl
theorem dX10_looks_212 : decode cX10_looks 212 = .ok (.iload 5, 2) := dq_21 (hz_wg wX10_looks_3 (j := 20) (n := 21) rfl) (hz_wg wX10_looks_3 (j := 21) (n := 5) rfl)
theorem dX10_looks_214 : decode cX10_looks 214 = .ok (.iaload, 1) := dq_46 (hz_wg wX10_looks_3 (j := 22) (n := 46) rfl)
theorem dX10_looks_215 : decode cX10_looks 215 = .ok (.iadd, 1) := dq_96 (hz_wg wX10_looks_3 (j := 23) (n := 96) rfl)
theorem dX10_looks_216 : decode cX10_looks 216 = .ok (.putfield 398, 3) := dq_181 (hz_wg wX10_looks_3 (j := 24) (n := 181) rfl) (hz_wg wX10_looks_3 (j := 25) (n := 1) rfl) (hz_wg wX10_looks_3 (j := 26) (n := 142) rfl) rfl
theorem dX10_looks_219 : decode cX10_looks 219 = .ok (.iinc 5 1, 3) := dq_132 (hz_wg wX10_looks_3 (j := 27) (n := 132) rfl) (hz_wg wX10_looks_3 (j := 28) (n := 5) rfl) (hz_wg wX10_looks_3 (j := 29) (n := 1) rfl) (by decide)
theorem dX10_looks_222 : decode cX10_looks 222 = .ok (.goto (-83), 3) := dq_167 (hz_wg wX10_looks_3 (j := 30) (n := 167) rfl) (hz_wg wX10_looks_3 (j := 31) (n := 255) rfl) (hz_wg wX10_looks_3 (j := 32) (n := 173) rfl) (by decide)
theorem dX10_looks_225 : decode cX10_looks 225 = .ok (.aload_n 0, 1) := dq_42 (hz_wg wX10_looks_3 (j := 33) (n := 42) rfl)
theorem dX10_looks_226 : decode cX10_looks 226 = .ok (.dup, 1) := dq_89 (hz_wg wX10_looks_3 (j := 34) (n := 89) rfl)
theorem dX10_looks_227 : decode cX10_looks 227 = .ok (.getfield 398, 3) := dq_180 (hz_wg wX10_looks_3 (j := 35) (n := 180) rfl) (hz_wg wX10_looks_3 (j := 36) (n := 1) rfl) (hz_wg wX10_looks_3 (j := 37) (n := 142) rfl) rfl
theorem dX10_looks_230 : decode cX10_looks 230 = .ok (.iload 4, 2) := dq_21 (hz_wg wX10_looks_3 (j := 38) (n := 21) rfl) (hz_wg wX10_looks_3 (j := 39) (n := 4) rfl)
theorem dX10_looks_232 : decode cX10_looks 232 = .ok (.ifCond .eq 12, 3) := dq_153 (hz_wg wX10_looks_3 (j := 40) (n := 153) rfl) (hz_wg wX10_looks_3 (j := 41) (n := 0) rfl) (hz_wg wX10_looks_3 (j := 42) (n := 12) rfl) (by decide)
theorem dX10_looks_235 : decode cX10_looks 235 = .ok (.aload_n 0, 1) := dq_42 (hz_wg wX10_looks_3 (j := 43) (n := 42) rfl)
theorem dX10_looks_236 : decode cX10_looks 236 = .ok (.getfield 138, 3) := dq_180 (hz_wg wX10_looks_3 (j := 44) (n := 180) rfl) (hz_wg wX10_looks_3 (j := 45) (n := 0) rfl) (hz_wg wX10_looks_3 (j := 46) (n := 138) rfl) rfl
theorem dX10_looks_239 : decode cX10_looks 239 = .ok (.iload_n 1, 1) := dq_27 (hz_wg wX10_looks_3 (j := 47) (n := 27) rfl)
theorem dX10_looks_240 : decode cX10_looks 240 = .ok (.iaload, 1) := dq_46 (hz_wg wX10_looks_3 (j := 48) (n := 46) rfl)
theorem dX10_looks_241 : decode cX10_looks 241 = .ok (.goto 4, 3) := dq_167 (hz_wg wX10_looks_3 (j := 49) (n := 167) rfl) (hz_wg wX10_looks_3 (j := 50) (n := 0) rfl) (hz_wg wX10_looks_3 (j := 51) (n := 4) rfl) (by decide)
theorem dX10_looks_244 : decode cX10_looks 244 = .ok (.iconst 0, 1) := dq_3 (hz_wg wX10_looks_3 (j := 52) (n := 3) rfl)
theorem dX10_looks_245 : decode cX10_looks 245 = .ok (.iadd, 1) := dq_96 (hz_wg wX10_looks_3 (j := 53) (n := 96) rfl)
theorem dX10_looks_246 : decode cX10_looks 246 = .ok (.putfield 398, 3) := dq_181 (hz_wg wX10_looks_3 (j := 54) (n := 181) rfl) (hz_wg wX10_looks_3 (j := 55) (n := 1) rfl) (hz_wg wX10_looks_3 (j := 56) (n := 142) rfl) rfl
theorem dX10_looks_249 : decode cX10_looks 249 = .ok (.aload_n 0, 1) := dq_42 (hz_wg wX10_looks_3 (j := 57) (n := 42) rfl)
theorem dX10_looks_250 : decode cX10_looks 250 = .ok (.getfield 135, 3) := dq_180 (hz_wg wX10_looks_3 (j := 58) (n := 180) rfl) (hz_wg wX10_looks_3 (j := 59) (n := 0) rfl) (hz_wg wX10_looks_3 (j := 60) (n := 135) rfl) rfl
theorem dX10_looks_253 : decode cX10_looks 253 = .ok (.iload_n 1, 1) := dq_27 (hz_wg wX10_looks_3 (j := 61) (n := 27) rfl)
theorem dX10_looks_254 : decode cX10_looks 254 = .ok (.iaload, 1) := dq_46 (hz_wg wX10_looks_3 (j := 62) (n := 46) rfl)
theorem dX10_looks_255 : decode cX10_looks 255 = .ok (.iload 4, 2) := dq_21 (hz_wg wX10_looks_3 (j := 63) (n := 21) rfl) (hz_wg wX10_looks_4 (j := 0) (n := 4) rfl)
theorem dX10_looks_257 : decode cX10_looks 257 = .ok (.ifCond .eq 18, 3) := dq_153 (hz_wg wX10_looks_4 (j := 1) (n := 153) rfl) (hz_wg wX10_looks_4 (j := 2) (n := 0) rfl) (hz_wg wX10_looks_4 (j := 3) (n := 18) rfl) (by decide)
theorem dX10_looks_260 : decode cX10_looks 260 = .ok (.aload_n 0, 1) := dq_42 (hz_wg wX10_looks_4 (j := 4) (n := 42) rfl)
theorem dX10_looks_261 : decode cX10_looks 261 = .ok (.aload_n 0, 1) := dq_42 (hz_wg wX10_looks_4 (j := 5) (n := 42) rfl)
theorem dX10_looks_262 : decode cX10_looks 262 = .ok (.getfield 102, 3) := dq_180 (hz_wg wX10_looks_4 (j := 6) (n := 180) rfl) (hz_wg wX10_looks_4 (j := 7) (n := 0) rfl) (hz_wg wX10_looks_4 (j := 8) (n := 102) rfl) rfl
theorem dX10_looks_265 : decode cX10_looks 265 = .ok (.iload_n 1, 1) := dq_27 (hz_wg wX10_looks_4 (j := 9) (n := 27) rfl)
theorem dX10_looks_266 : decode cX10_looks 266 = .ok (.iaload, 1) := dq_46 (hz_wg wX10_looks_4 (j := 10) (n := 46) rfl)
theorem dX10_looks_267 : decode cX10_looks 267 = .ok (.bipush 12, 2) := dq_16 (hz_wg wX10_looks_4 (j := 11) (n := 16) rfl) (hz_wg wX10_looks_4 (j := 12) (n := 12) rfl) (by decide)
theorem dX10_looks_269 : decode cX10_looks 269 = .ok (.invokevirtual 333, 3) := dq_182 (hz_wg wX10_looks_4 (j := 13) (n := 182) rfl) (hz_wg wX10_looks_4 (j := 14) (n := 1) rfl) (hz_wg wX10_looks_4 (j := 15) (n := 77) rfl) rfl
theorem dX10_looks_272 : decode cX10_looks 272 = .ok (.goto 4, 3) := dq_167 (hz_wg wX10_looks_4 (j := 16) (n := 167) rfl) (hz_wg wX10_looks_4 (j := 17) (n := 0) rfl) (hz_wg wX10_looks_4 (j := 18) (n := 4) rfl) (by decide)
theorem dX10_looks_275 : decode cX10_looks 275 = .ok (.iconst 0, 1) := dq_3 (hz_wg wX10_looks_4 (j := 19) (n := 3) rfl)
theorem dX10_looks_276 : decode cX10_looks 276 = .ok (.iadd, 1) := dq_96 (hz_wg wX10_looks_4 (j := 20) (n := 96) rfl)
theorem dX10_looks_277 : decode cX10_looks 277 = .ok (.istore 5, 2) := dq_54 (hz_wg wX10_looks_4 (j := 21) (n := 54) rfl) (hz_wg wX10_looks_4 (j := 22) (n := 5) rfl)
theorem dX10_looks_279 : decode cX10_looks 279 = .ok (.aload_n 0, 1) := dq_42 (hz_wg wX10_looks_4 (j := 23) (n := 42) rfl)
theorem dX10_looks_280 : decode cX10_looks 280 = .ok (.getfield 120, 3) := dq_180 (hz_wg wX10_looks_4 (j := 24) (n := 180) rfl) (hz_wg wX10_looks_4 (j := 25) (n := 0) rfl) (hz_wg wX10_looks_4 (j := 26) (n := 120) rfl) rfl
theorem dX10_looks_283 : decode cX10_looks 283 = .ok (.iload_n 1, 1) := dq_27 (hz_wg wX10_looks_4 (j := 27) (n := 27) rfl)
theorem dX10_looks_284 : decode cX10_looks 284 = .ok (.iaload, 1) := dq_46 (hz_wg wX10_looks_4 (j := 28) (n := 46) rfl)
theorem dX10_looks_285 : decode cX10_looks 285 = .ok (.iconst (-1), 1) := dq_2 (hz_wg wX10_looks_4 (j := 29) (n := 2) rfl)
theorem dX10_looks_286 : decode cX10_looks 286 = .ok (.if_icmp .eq 20, 3) := dq_159 (hz_wg wX10_looks_4 (j := 30) (n := 159) rfl) (hz_wg wX10_looks_4 (j := 31) (n := 0) rfl) (hz_wg wX10_looks_4 (j := 32) (n := 20) rfl) (by decide)
theorem dX10_looks_289 : decode cX10_looks 289 = .ok (.aload_n 0, 1) := dq_42 (hz_wg wX10_looks_4 (j := 33) (n := 42) rfl)
theorem dX10_looks_290 : decode cX10_looks 290 = .ok (.getfield 120, 3) := dq_180 (hz_wg wX10_looks_4 (j := 34) (n := 180) rfl) (hz_wg wX10_looks_4 (j := 35) (n := 0) rfl) (hz_wg wX10_looks_4 (j := 36) (n := 120) rfl) rfl
theorem dX10_looks_293 : decode cX10_looks 293 = .ok (.iload_n 1, 1) := dq_27 (hz_wg wX10_looks_4 (j := 37) (n := 27) rfl)
theorem dX10_looks_294 : decode cX10_looks 294 = .ok (.iaload, 1) := dq_46 (hz_wg wX10_looks_4 (j := 38) (n := 46) rfl)
theorem dX10_looks_295 : decode cX10_looks 295 = .ok (.iload_n 2, 1) := dq_28 (hz_wg wX10_looks_4 (j := 39) (n := 28) rfl)
theorem dX10_looks_296 : decode cX10_looks 296 = .ok (.if_icmp .gt 10, 3) := dq_163 (hz_wg wX10_looks_4 (j := 40) (n := 163) rfl) (hz_wg wX10_looks_4 (j := 41) (n := 0) rfl) (hz_wg wX10_looks_4 (j := 42) (n := 10) rfl) (by decide)
theorem dX10_looks_299 : decode cX10_looks 299 = .ok (.aload_n 0, 1) := dq_42 (hz_wg wX10_looks_4 (j := 43) (n := 42) rfl)
theorem dX10_looks_300 : decode cX10_looks 300 = .ok (.bipush 8, 2) := dq_16 (hz_wg wX10_looks_4 (j := 44) (n := 16) rfl) (hz_wg wX10_looks_4 (j := 45) (n := 8) rfl) (by decide)
theorem dX10_looks_302 : decode cX10_looks 302 = .ok (.putfield 410, 3) := dq_181 (hz_wg wX10_looks_4 (j := 46) (n := 181) rfl) (hz_wg wX10_looks_4 (j := 47) (n := 1) rfl) (hz_wg wX10_looks_4 (j := 48) (n := 154) rfl) rfl
theorem dX10_looks_305 : decode cX10_looks 305 = .ok (.return_, 1) := dq_177 (hz_wg wX10_looks_4 (j := 49) (n := 177) rfl)
theorem dX10_looks_306 : decode cX10_looks 306 = .ok (.aload_n 0, 1) := dq_42 (hz_wg wX10_looks_4 (j := 50) (n := 42) rfl)
theorem dX10_looks_307 : decode cX10_looks 307 = .ok (.iload 5, 2) := dq_21 (hz_wg wX10_looks_4 (j := 51) (n := 21) rfl) (hz_wg wX10_looks_4 (j := 52) (n := 5) rfl)
theorem dX10_looks_309 : decode cX10_looks 309 = .ok (.aload_n 0, 1) := dq_42 (hz_wg wX10_looks_4 (j := 53) (n := 42) rfl)
theorem dX10_looks_310 : decode cX10_looks 310 = .ok (.getfield 398, 3) := dq_180 (hz_wg wX10_looks_4 (j := 54) (n := 180) rfl) (hz_wg wX10_looks_4 (j := 55) (n := 1) rfl) (hz_wg wX10_looks_4 (j := 56) (n := 142) rfl) rfl
theorem dX10_looks_313 : decode cX10_looks 313 = .ok (.if_icmp .le 13, 3) := dq_164 (hz_wg wX10_looks_4 (j := 57) (n := 164) rfl) (hz_wg wX10_looks_4 (j := 58) (n := 0) rfl) (hz_wg wX10_looks_4 (j := 59) (n := 13) rfl) (by decide)
theorem dX10_looks_316 : decode cX10_looks 316 = .ok (.iload 5, 2) := dq_21 (hz_wg wX10_looks_4 (j := 60) (n := 21) rfl) (hz_wg wX10_looks_4 (j := 61) (n := 5) rfl)
theorem dX10_looks_318 : decode cX10_looks 318 = .ok (.aload_n 0, 1) := dq_42 (hz_wg wX10_looks_4 (j := 62) (n := 42) rfl)
theorem dX10_looks_319 : decode cX10_looks 319 = .ok (.getfield 398, 3) := dq_180 (hz_wg wX10_looks_4 (j := 63) (n := 180) rfl) (hz_wg wX10_looks_5 (j := 0) (n := 1) rfl) (hz_wg wX10_looks_5 (j := 1) (n := 142) rfl) rfl
theorem dX10_looks_322 : decode cX10_looks 322 = .ok (.isub, 1) := dq_100 (hz_wg wX10_looks_5 (j := 2) (n := 100) rfl)
theorem dX10_looks_323 : decode cX10_looks 323 = .ok (.goto 4, 3) := dq_167 (hz_wg wX10_looks_5 (j := 3) (n := 167) rfl) (hz_wg wX10_looks_5 (j := 4) (n := 0) rfl) (hz_wg wX10_looks_5 (j := 5) (n := 4) rfl) (by decide)
theorem dX10_looks_326 : decode cX10_looks 326 = .ok (.iconst 0, 1) := dq_3 (hz_wg wX10_looks_5 (j := 6) (n := 3) rfl)
theorem dX10_looks_327 : decode cX10_looks 327 = .ok (.putfield 401, 3) := dq_181 (hz_wg wX10_looks_5 (j := 7) (n := 181) rfl) (hz_wg wX10_looks_5 (j := 8) (n := 1) rfl) (hz_wg wX10_looks_5 (j := 9) (n := 145) rfl) rfl
theorem dX10_looks_330 : decode cX10_looks 330 = .ok (.aload_n 0, 1) := dq_42 (hz_wg wX10_looks_5 (j := 10) (n := 42) rfl)
theorem dX10_looks_331 : decode cX10_looks 331 = .ok (.aload_n 0, 1) := dq_42 (hz_wg wX10_looks_5 (j := 11) (n := 42) rfl)
theorem dX10_looks_332 : decode cX10_looks 332 = .ok (.getfield 398, 3) := dq_180 (hz_wg wX10_looks_5 (j := 12) (n := 180) rfl) (hz_wg wX10_looks_5 (j := 13) (n := 1) rfl) (hz_wg wX10_looks_5 (j := 14) (n := 142) rfl) rfl
theorem dX10_looks_335 : decode cX10_looks 335 = .ok (.iload 5, 2) := dq_21 (hz_wg wX10_looks_5 (j := 15) (n := 21) rfl) (hz_wg wX10_looks_5 (j := 16) (n := 5) rfl)
theorem dX10_looks_337 : decode cX10_looks 337 = .ok (.if_icmp .le 13, 3) := dq_164 (hz_wg wX10_looks_5 (j := 17) (n := 164) rfl) (hz_wg wX10_looks_5 (j := 18) (n := 0) rfl) (hz_wg wX10_looks_5 (j := 19) (n := 13) rfl) (by decide)
theorem dX10_looks_340 : decode cX10_looks 340 = .ok (.aload_n 0, 1) := dq_42 (hz_wg wX10_looks_5 (j := 20) (n := 42) rfl)
theorem dX10_looks_341 : decode cX10_looks 341 = .ok (.getfield 398, 3) := dq_180 (hz_wg wX10_looks_5 (j := 21) (n := 180) rfl) (hz_wg wX10_looks_5 (j := 22) (n := 1) rfl) (hz_wg wX10_looks_5 (j := 23) (n := 142) rfl) rfl
theorem dX10_looks_344 : decode cX10_looks 344 = .ok (.iload 5, 2) := dq_21 (hz_wg wX10_looks_5 (j := 24) (n := 21) rfl) (hz_wg wX10_looks_5 (j := 25) (n := 5) rfl)
theorem dX10_looks_346 : decode cX10_looks 346 = .ok (.isub, 1) := dq_100 (hz_wg wX10_looks_5 (j := 26) (n := 100) rfl)
theorem dX10_looks_347 : decode cX10_looks 347 = .ok (.goto 4, 3) := dq_167 (hz_wg wX10_looks_5 (j := 27) (n := 167) rfl) (hz_wg wX10_looks_5 (j := 28) (n := 0) rfl) (hz_wg wX10_looks_5 (j := 29) (n := 4) rfl) (by decide)
theorem dX10_looks_350 : decode cX10_looks 350 = .ok (.iconst 0, 1) := dq_3 (hz_wg wX10_looks_5 (j := 30) (n := 3) rfl)
theorem dX10_looks_351 : decode cX10_looks 351 = .ok (.putfield 404, 3) := dq_181 (hz_wg wX10_looks_5 (j := 31) (n := 181) rfl) (hz_wg wX10_looks_5 (j := 32) (n := 1) rfl) (hz_wg wX10_looks_5 (j := 33) (n := 148) rfl) rfl
theorem dX10_looks_354 : decode cX10_looks 354 = .ok (.iload_n 2, 1) := dq_28 (hz_wg wX10_looks_5 (j := 34) (n := 28) rfl)
theorem dX10_looks_355 : decode cX10_looks 355 = .ok (.aload_n 0, 1) := dq_42 (hz_wg wX10_looks_5 (j := 35) (n := 42) rfl)
theorem dX10_looks_356 : decode cX10_looks 356 = .ok (.getfield 114, 3) := dq_180 (hz_wg wX10_looks_5 (j := 36) (n := 180) rfl) (hz_wg wX10_looks_5 (j := 37) (n := 0) rfl) (hz_wg wX10_looks_5 (j := 38) (n := 114) rfl) rfl
theorem dX10_looks_359 : decode cX10_looks 359 = .ok (.iload_n 1, 1) := dq_27 (hz_wg wX10_looks_5 (j := 39) (n := 27) rfl)
theorem dX10_looks_360 : decode cX10_looks 360 = .ok (.iaload, 1) := dq_46 (hz_wg wX10_looks_5 (j := 40) (n := 46) rfl)
theorem dX10_looks_361 : decode cX10_looks 361 = .ok (.isub, 1) := dq_100 (hz_wg wX10_looks_5 (j := 41) (n := 100) rfl)
theorem dX10_looks_362 : decode cX10_looks 362 = .ok (.bipush 7, 2) := dq_16 (hz_wg wX10_looks_5 (j := 42) (n := 16) rfl) (hz_wg wX10_looks_5 (j := 43) (n := 7) rfl) (by decide)
theorem dX10_looks_364 : decode cX10_looks 364 = .ok (.idiv, 1) := dq_108 (hz_wg wX10_looks_5 (j := 44) (n := 108) rfl)
theorem dX10_looks_365 : decode cX10_looks 365 = .ok (.istore 6, 2) := dq_54 (hz_wg wX10_looks_5 (j := 45) (n := 54) rfl) (hz_wg wX10_looks_5 (j := 46) (n := 6) rfl)
theorem dX10_looks_367 : decode cX10_looks 367 = .ok (.aload_n 0, 1) := dq_42 (hz_wg wX10_looks_5 (j := 47) (n := 42) rfl)
theorem dX10_looks_368 : decode cX10_looks 368 = .ok (.getfield 132, 3) := dq_180 (hz_wg wX10_looks_5 (j := 48) (n := 180) rfl) (hz_wg wX10_looks_5 (j := 49) (n := 0) rfl) (hz_wg wX10_looks_5 (j := 50) (n := 132) rfl) rfl
theorem dX10_looks_371 : decode cX10_looks 371 = .ok (.iload_n 1, 1) := dq_27 (hz_wg wX10_looks_5 (j := 51) (n := 27) rfl)
theorem dX10_looks_372 : decode cX10_looks 372 = .ok (.iaload, 1) := dq_46 (hz_wg wX10_looks_5 (j := 52) (n := 46) rfl)
theorem dX10_looks_373 : decode cX10_looks 373 = .ok (.iload 6, 2) := dq_21 (hz_wg wX10_looks_5 (j := 53) (n := 21) rfl) (hz_wg wX10_looks_5 (j := 54) (n := 6) rfl)
theorem dX10_looks_375 : decode cX10_looks 375 = .ok (.imul, 1) := dq_104 (hz_wg wX10_looks_5 (j := 55) (n := 104) rfl)
theorem dX10_looks_376 : decode cX10_looks 376 = .ok (.iload 5, 2) := dq_21 (hz_wg wX10_looks_5 (j := 56) (n := 21) rfl) (hz_wg wX10_looks_5 (j := 57) (n := 5) rfl)
theorem dX10_looks_378 : decode cX10_looks 378 = .ok (.if_icmp .ge 15, 3) := dq_162 (hz_wg wX10_looks_5 (j := 58) (n := 162) rfl) (hz_wg wX10_looks_5 (j := 59) (n := 0) rfl) (hz_wg wX10_looks_5 (j := 60) (n := 15) rfl) (by decide)
theorem dX10_looks_381 : decode cX10_looks 381 = .ok (.aload_n 0, 1) := dq_42 (hz_wg wX10_looks_5 (j := 61) (n := 42) rfl)
theorem dX10_looks_382 : decode cX10_looks 382 = .ok (.getfield 132, 3) := dq_180 (hz_wg wX10_looks_5 (j := 62) (n := 180) rfl) (hz_wg wX10_looks_5 (j := 63) (n := 0) rfl) (hz_wg wX10_looks_6 (j := 0) (n := 132) rfl) rfl
theorem dX10_looks_385 : decode cX10_looks 385 = .ok (.iload_n 1, 1) := dq_27 (hz_wg wX10_looks_6 (j := 1) (n := 27) rfl)
theorem dX10_looks_386 : decode cX10_looks 386 = .ok (.iaload, 1) := dq_46 (hz_wg wX10_looks_6 (j := 2) (n := 46) rfl)
theorem dX10_looks_387 : decode cX10_looks 387 = .ok (.iload 6, 2) := dq_21 (hz_wg wX10_looks_6 (j := 3) (n := 21) rfl) (hz_wg wX10_looks_6 (j := 4) (n := 6) rfl)
theorem dX10_looks_389 : decode cX10_looks 389 = .ok (.imul, 1) := dq_104 (hz_wg wX10_looks_6 (j := 5) (n := 104) rfl)
theorem dX10_looks_390 : decode cX10_looks 390 = .ok (.goto 5, 3) := dq_167 (hz_wg wX10_looks_6 (j := 6) (n := 167) rfl) (hz_wg wX10_looks_6 (j := 7) (n := 0) rfl) (hz_wg wX10_looks_6 (j := 8) (n := 5) rfl) (by decide)
theorem dX10_looks_393 : decode cX10_looks 393 = .ok (.iload 5, 2) := dq_21 (hz_wg wX10_looks_6 (j := 9) (n := 21) rfl) (hz_wg wX10_looks_6 (j := 10) (n := 5) rfl)
theorem dX10_looks_395 : decode cX10_looks 395 = .ok (.istore 7, 2) := dq_54 (hz_wg wX10_looks_6 (j := 11) (n := 54) rfl) (hz_wg wX10_looks_6 (j := 12) (n := 7) rfl)
theorem dX10_looks_397 : decode cX10_looks 397 = .ok (.aload_n 0, 1) := dq_42 (hz_wg wX10_looks_6 (j := 13) (n := 42) rfl)
theorem dX10_looks_398 : decode cX10_looks 398 = .ok (.iload 7, 2) := dq_21 (hz_wg wX10_looks_6 (j := 14) (n := 21) rfl) (hz_wg wX10_looks_6 (j := 15) (n := 7) rfl)
theorem dX10_looks_400 : decode cX10_looks 400 = .ok (.aload_n 0, 1) := dq_42 (hz_wg wX10_looks_6 (j := 16) (n := 42) rfl)
theorem dX10_looks_401 : decode cX10_looks 401 = .ok (.getfield 398, 3) := dq_180 (hz_wg wX10_looks_6 (j := 17) (n := 180) rfl) (hz_wg wX10_looks_6 (j := 18) (n := 1) rfl) (hz_wg wX10_looks_6 (j := 19) (n := 142) rfl) rfl
theorem dX10_looks_404 : decode cX10_looks 404 = .ok (.if_icmp .le 29, 3) := dq_164 (hz_wg wX10_looks_6 (j := 20) (n := 164) rfl) (hz_wg wX10_looks_6 (j := 21) (n := 0) rfl) (hz_wg wX10_looks_6 (j := 22) (n := 29) rfl) (by decide)
theorem dX10_looks_407 : decode cX10_looks 407 = .ok (.iload 7, 2) := dq_21 (hz_wg wX10_looks_6 (j := 23) (n := 21) rfl) (hz_wg wX10_looks_6 (j := 24) (n := 7) rfl)
theorem dX10_looks_409 : decode cX10_looks 409 = .ok (.aload_n 0, 1) := dq_42 (hz_wg wX10_looks_6 (j := 25) (n := 42) rfl)
theorem dX10_looks_410 : decode cX10_looks 410 = .ok (.getfield 398, 3) := dq_180 (hz_wg wX10_looks_6 (j := 26) (n := 180) rfl) (hz_wg wX10_looks_6 (j := 27) (n := 1) rfl) (hz_wg wX10_looks_6 (j := 28) (n := 142) rfl) rfl
theorem dX10_looks_413 : decode cX10_looks 413 = .ok (.isub, 1) := dq_100 (hz_wg wX10_looks_6 (j := 29) (n := 100) rfl)
theorem dX10_looks_414 : decode cX10_looks 414 = .ok (.aload_n 0, 1) := dq_42 (hz_wg wX10_looks_6 (j := 30) (n := 42) rfl)
theorem dX10_looks_415 : decode cX10_looks 415 = .ok (.getfield 132, 3) := dq_180 (hz_wg wX10_looks_6 (j := 31) (n := 180) rfl) (hz_wg wX10_looks_6 (j := 32) (n := 0) rfl) (hz_wg wX10_looks_6 (j := 33) (n := 132) rfl) rfl
theorem dX10_looks_418 : decode cX10_looks 418 = .ok (.iload_n 1, 1) := dq_27 (hz_wg wX10_looks_6 (j := 34) (n := 27) rfl)
theorem dX10_looks_419 : decode cX10_looks 419 = .ok (.iaload, 1) := dq_46 (hz_wg wX10_looks_6 (j := 35) (n := 46) rfl)
theorem dX10_looks_420 : decode cX10_looks 420 = .ok (.iadd, 1) := dq_96 (hz_wg wX10_looks_6 (j := 36) (n := 96) rfl)
theorem dX10_looks_421 : decode cX10_looks 421 = .ok (.iconst 1, 1) := dq_4 (hz_wg wX10_looks_6 (j := 37) (n := 4) rfl)
theorem dX10_looks_422 : decode cX10_looks 422 = .ok (.isub, 1) := dq_100 (hz_wg wX10_looks_6 (j := 38) (n := 100) rfl)
theorem dX10_looks_423 : decode cX10_looks 423 = .ok (.aload_n 0, 1) := dq_42 (hz_wg wX10_looks_6 (j := 39) (n := 42) rfl)
theorem dX10_looks_424 : decode cX10_looks 424 = .ok (.getfield 132, 3) := dq_180 (hz_wg wX10_looks_6 (j := 40) (n := 180) rfl) (hz_wg wX10_looks_6 (j := 41) (n := 0) rfl) (hz_wg wX10_looks_6 (j := 42) (n := 132) rfl) rfl
theorem dX10_looks_427 : decode cX10_looks 427 = .ok (.iload_n 1, 1) := dq_27 (hz_wg wX10_looks_6 (j := 43) (n := 27) rfl)
theorem dX10_looks_428 : decode cX10_looks 428 = .ok (.iaload, 1) := dq_46 (hz_wg wX10_looks_6 (j := 44) (n := 46) rfl)
theorem dX10_looks_429 : decode cX10_looks 429 = .ok (.idiv, 1) := dq_108 (hz_wg wX10_looks_6 (j := 45) (n := 108) rfl)
theorem dX10_looks_430 : decode cX10_looks 430 = .ok (.goto 4, 3) := dq_167 (hz_wg wX10_looks_6 (j := 46) (n := 167) rfl) (hz_wg wX10_looks_6 (j := 47) (n := 0) rfl) (hz_wg wX10_looks_6 (j := 48) (n := 4) rfl) (by decide)
theorem dX10_looks_433 : decode cX10_looks 433 = .ok (.iconst 0, 1) := dq_3 (hz_wg wX10_looks_6 (j := 49) (n := 3) rfl)
theorem dX10_looks_434 : decode cX10_looks 434 = .ok (.putfield 407, 3) := dq_181 (hz_wg wX10_looks_6 (j := 50) (n := 181) rfl) (hz_wg wX10_looks_6 (j := 51) (n := 1) rfl) (hz_wg wX10_looks_6 (j := 52) (n := 151) rfl) rfl
theorem dX10_looks_437 : decode cX10_looks 437 = .ok (.aload_n 0, 1) := dq_42 (hz_wg wX10_looks_6 (j := 53) (n := 42) rfl)
theorem dX10_looks_438 : decode cX10_looks 438 = .ok (.aload_n 0, 1) := dq_42 (hz_wg wX10_looks_6 (j := 54) (n := 42) rfl)
theorem dX10_looks_439 : decode cX10_looks 439 = .ok (.getfield 102, 3) := dq_180 (hz_wg wX10_looks_6 (j := 55) (n := 180) rfl) (hz_wg wX10_looks_6 (j := 56) (n := 0) rfl) (hz_wg wX10_looks_6 (j := 57) (n := 102) rfl) rfl
theorem dX10_looks_442 : decode cX10_looks 442 = .ok (.iload_n 1, 1) := dq_27 (hz_wg wX10_looks_6 (j := 58) (n := 27) rfl)
theorem dX10_looks_443 : decode cX10_looks 443 = .ok (.iaload, 1) := dq_46 (hz_wg wX10_looks_6 (j := 59) (n := 46) rfl)
theorem dX10_looks_444 : decode cX10_looks 444 = .ok (.iconst 4, 1) := dq_7 (hz_wg wX10_looks_6 (j := 60) (n := 7) rfl)
theorem dX10_looks_445 : decode cX10_looks 445 = .ok (.invokevirtual 333, 3) := dq_182 (hz_wg wX10_looks_6 (j := 61) (n := 182) rfl) (hz_wg wX10_looks_6 (j := 62) (n := 1) rfl) (hz_wg wX10_looks_6 (j := 63) (n := 77) rfl) rfl
theorem dX10_looks_448 : decode cX10_looks 448 = .ok (.istore 8, 2) := dq_54 (hz_wg wX10_looks_7 (j := 0) (n := 54) rfl) (hz_wg wX10_looks_7 (j := 1) (n := 8) rfl)
theorem dX10_looks_450 : decode cX10_looks 450 = .ok (.aload_n 0, 1) := dq_42 (hz_wg wX10_looks_7 (j := 2) (n := 42) rfl)
theorem dX10_looks_451 : decode cX10_looks 451 = .ok (.aload_n 0, 1) := dq_42 (hz_wg wX10_looks_7 (j := 3) (n := 42) rfl)
theorem dX10_looks_452 : decode cX10_looks 452 = .ok (.getfield 401, 3) := dq_180 (hz_wg wX10_looks_7 (j := 4) (n := 180) rfl) (hz_wg wX10_looks_7 (j := 5) (n := 1) rfl) (hz_wg wX10_looks_7 (j := 6) (n := 145) rfl) rfl
theorem dX10_looks_455 : decode cX10_looks 455 = .ok (.ifCond .ne 8, 3) := dq_154 (hz_wg wX10_looks_7 (j := 7) (n := 154) rfl) (hz_wg wX10_looks_7 (j := 8) (n := 0) rfl) (hz_wg wX10_looks_7 (j := 9) (n := 8) rfl) (by decide)
theorem dX10_looks_458 : decode cX10_looks 458 = .ok (.bipush 7, 2) := dq_16 (hz_wg wX10_looks_7 (j := 10) (n := 16) rfl) (hz_wg wX10_looks_7 (j := 11) (n := 7) rfl) (by decide)
theorem dX10_looks_460 : decode cX10_looks 460 = .ok (.goto 43, 3) := dq_167 (hz_wg wX10_looks_7 (j := 12) (n := 167) rfl) (hz_wg wX10_looks_7 (j := 13) (n := 0) rfl) (hz_wg wX10_looks_7 (j := 14) (n := 43) rfl) (by decide)
theorem dX10_looks_463 : decode cX10_looks 463 = .ok (.aload_n 0, 1) := dq_42 (hz_wg wX10_looks_7 (j := 15) (n := 42) rfl)
theorem dX10_looks_464 : decode cX10_looks 464 = .ok (.getfield 407, 3) := dq_180 (hz_wg wX10_looks_7 (j := 16) (n := 180) rfl) (hz_wg wX10_looks_7 (j := 17) (n := 1) rfl) (hz_wg wX10_looks_7 (j := 18) (n := 151) rfl) rfl
theorem dX10_looks_467 : decode cX10_looks 467 = .ok (.iload 8, 2) := dq_21 (hz_wg wX10_looks_7 (j := 19) (n := 21) rfl) (hz_wg wX10_looks_7 (j := 20) (n := 8) rfl)
theorem dX10_looks_469 : decode cX10_looks 469 = .ok (.aload_n 0, 1) := dq_42 (hz_wg wX10_looks_7 (j := 21) (n := 42) rfl)
theorem dX10_looks_470 : decode cX10_looks 470 = .ok (.aload_n 0, 1) := dq_42 (hz_wg wX10_looks_7 (j := 22) (n := 42) rfl)
theorem dX10_looks_471 : decode cX10_looks 471 = .ok (.getfield 102, 3) := dq_180 (hz_wg wX10_looks_7 (j := 23) (n := 180) rfl) (hz_wg wX10_looks_7 (j := 24) (n := 0) rfl) (hz_wg wX10_looks_7 (j := 25) (n := 102) rfl) rfl
theorem dX10_looks_474 : decode cX10_looks 474 = .ok (.iload_n 1, 1) := dq_27 (hz_wg wX10_looks_7 (j := 26) (n := 27) rfl)
theorem dX10_looks_475 : decode cX10_looks 475 = .ok (.iaload, 1) := dq_46 (hz_wg wX10_looks_7 (j := 27) (n := 46) rfl)
theorem dX10_looks_476 : decode cX10_looks 476 = .ok (.iconst 5, 1) := dq_8 (hz_wg wX10_looks_7 (j := 28) (n := 8) rfl)
theorem dX10_looks_477 : decode cX10_looks 477 = .ok (.invokevirtual 333, 3) := dq_182 (hz_wg wX10_looks_7 (j := 29) (n := 182) rfl) (hz_wg wX10_looks_7 (j := 30) (n := 1) rfl) (hz_wg wX10_looks_7 (j := 31) (n := 77) rfl) rfl
theorem dX10_looks_480 : decode cX10_looks 480 = .ok (.iadd, 1) := dq_96 (hz_wg wX10_looks_7 (j := 32) (n := 96) rfl)
theorem dX10_looks_481 : decode cX10_looks 481 = .ok (.if_icmp .lt 8, 3) := dq_161 (hz_wg wX10_looks_7 (j := 33) (n := 161) rfl) (hz_wg wX10_looks_7 (j := 34) (n := 0) rfl) (hz_wg wX10_looks_7 (j := 35) (n := 8) rfl) (by decide)
theorem dX10_looks_484 : decode cX10_looks 484 = .ok (.bipush 6, 2) := dq_16 (hz_wg wX10_looks_7 (j := 36) (n := 16) rfl) (hz_wg wX10_looks_7 (j := 37) (n := 6) rfl) (by decide)
theorem dX10_looks_486 : decode cX10_looks 486 = .ok (.goto 17, 3) := dq_167 (hz_wg wX10_looks_7 (j := 38) (n := 167) rfl) (hz_wg wX10_looks_7 (j := 39) (n := 0) rfl) (hz_wg wX10_looks_7 (j := 40) (n := 17) rfl) (by decide)
theorem dX10_looks_489 : decode cX10_looks 489 = .ok (.aload_n 0, 1) := dq_42 (hz_wg wX10_looks_7 (j := 41) (n := 42) rfl)
theorem dX10_looks_490 : decode cX10_looks 490 = .ok (.getfield 407, 3) := dq_180 (hz_wg wX10_looks_7 (j := 42) (n := 180) rfl) (hz_wg wX10_looks_7 (j := 43) (n := 1) rfl) (hz_wg wX10_looks_7 (j := 44) (n := 151) rfl) rfl
theorem dX10_looks_493 : decode cX10_looks 493 = .ok (.iload 8, 2) := dq_21 (hz_wg wX10_looks_7 (j := 45) (n := 21) rfl) (hz_wg wX10_looks_7 (j := 46) (n := 8) rfl)
theorem dX10_looks_495 : decode cX10_looks 495 = .ok (.if_icmp .lt 7, 3) := dq_161 (hz_wg wX10_looks_7 (j := 47) (n := 161) rfl) (hz_wg wX10_looks_7 (j := 48) (n := 0) rfl) (hz_wg wX10_looks_7 (j := 49) (n := 7) rfl) (by decide)
theorem dX10_looks_498 : decode cX10_looks 498 = .ok (.iconst 5, 1) := dq_8 (hz_wg wX10_looks_7 (j := 50) (n := 8) rfl)
theorem dX10_looks_499 : decode cX10_looks 499 = .ok (.goto 4, 3) := dq_167 (hz_wg wX10_looks_7 (j := 51) (n := 167) rfl) (hz_wg wX10_looks_7 (j := 52) (n := 0) rfl) (hz_wg wX10_looks_7 (j := 53) (n := 4) rfl) (by decide)
theorem dX10_looks_502 : decode cX10_looks 502 = .ok (.iconst 4, 1) := dq_7 (hz_wg wX10_looks_7 (j := 54) (n := 7) rfl)
theorem dX10_looks_503 : decode cX10_looks 503 = .ok (.putfield 410, 3) := dq_181 (hz_wg wX10_looks_7 (j := 55) (n := 181) rfl) (hz_wg wX10_looks_7 (j := 56) (n := 1) rfl) (hz_wg wX10_looks_7 (j := 57) (n := 154) rfl) rfl
theorem dX10_looks_506 : decode cX10_looks 506 = .ok (.return_, 1) := dq_177 (hz_wg wX10_looks_7 (j := 58) (n := 177) rfl)
set_option maxHeartbeats 4000000 in
set_option maxRecDepth 100000 in
theorem t_X10_looks (l : Launch) (dC : Nat → ClassId) (dI : Nat → Nat → Nat) (dA : Nat → ClassId) (L : List Nat) (h : hx_h) (sz : Nat) (x : Nat) (i1 : Int32) (i2 : Int32) (i3 : Int32) (hT : hx_T T_tb L h) (gx : hx_g L h x 10) (hi1 : 0 ≤ i1.toInt ∧ i1.toInt ≤ 99) : Met l yX10_looks (Cond.code yX10_looks cX10_looks 9 none :: hx_all) ({ frames := 1, cells := 0, slots := 0, locals := 22 }) (va_Pc [.ref x, .int i1, .int i2, .int i3] (hx_B T_tb (P_ty dA) (dC, dI) vwCl L h sz)) (va_Qv (fun (u : List Nat × hx_h) => (∃ (rs1 : Int32) (st1 : Int32) (pd1 : Int32), u.2.2.1 x 68 = rs1 ∧ u.2.2.1 x 71 = st1 ∧ u.2.2.1 x 67 = pd1 ∧ (4 ≤ st1.toInt ∧ st1.toInt ≤ 6 → 1 ≤ rs1.toInt)) ∧ hx_T T_tb u.1 u.2 ∧ hx_S T_tb [(10, 67), (10, 68), (10, 69), (10, 70), (10, 71)] L h u.1 u.2) (hx_E T_tb (P_ty dA) (dC, dI) vwCl (hx_A L sz)) (hx_A L sz)) 0 0 (hx_A L sz) := by
  refine hx_met (lv := [(0, .ref x), (1, .int i1), (2, .int i2), (3, .int i3)]) (by decide +kernel) rfl (Nat.le_of_ble_eq_true rfl) rfl ?_
  intro p e s m below meth c hx hb hml hr hlk hts0 hown hin hsz hW ls hl
  have hts : ∀ w ∈ hx_all, w.before _ s = true := fun w hw => hts0 w (List.mem_cons_of_mem _ hw)
  have hown : s.vm.findClass "SmallCourtModel" = some m.cls := hown
  have hM : hx_S T_tb [(10, 67), (10, 68), (10, 69), (10, 70), (10, 71)] L h L h := hx_S.rf
  refine lv_aload_n hx hb dX10_looks_0 rfl (lv_at hl 0 rfl) ?_
  refine lv_iconst (v := 0) hx hb dX10_looks_1 (by decide) ?_
  refine hx_puti hx hb hts hC_10 hown hW hT (hx_S.rf (M := [(10, 67)])) (gx.S hM) tt_10 67 (by decide) rfl kw_1210 ⟨rfl, rfl, rfl⟩ rfl (x := (0 : Int32)) (by decide) rfl rfl rfl (List.mem_singleton.mpr rfl) dX10_looks_2 (fun H locs h_1 eh_1 hW hT hs => ?_)
  replace hM := hM.tr (hs.mono (by decide))
  have f_2 : h_1.2.1 x 67 = (0 : Int32) := by rw [eh_1]; exact hx_pi_at _ _ _ _
  refine lv_aload_n hx hb dX10_looks_5 rfl (lv_at hl 0 rfl) ?_
  refine lv_iconst (v := 0) hx hb dX10_looks_6 (by decide) ?_
  refine hx_puti hx hb hts hC_10 hown hW hT (hx_S.rf (M := [(10, 68)])) (gx.S hM) tt_10 68 (by decide) rfl kw_1211 ⟨rfl, rfl, rfl⟩ rfl (x := (0 : Int32)) (by decide) rfl rfl rfl (List.mem_singleton.mpr rfl) dX10_looks_7 (fun H locs h_3 eh_3 hW hT hs => ?_)
  replace f_2 := (hs.o (gx.S hM) trivial rfl).1.trans f_2
  replace hM := hM.tr (hs.mono (by decide))
  have f_4 : h_3.2.1 x 68 = (0 : Int32) := by rw [eh_3]; exact hx_pi_at _ _ _ _
  refine lv_aload_n hx hb dX10_looks_10 rfl (lv_at hl 0 rfl) ?_
  refine lv_iconst (v := 0) hx hb dX10_looks_11 (by decide) ?_
  refine hx_puti hx hb hts hC_10 hown hW hT (hx_S.rf (M := [(10, 69)])) (gx.S hM) tt_10 69 (by decide) rfl kw_1212 ⟨rfl, rfl, rfl⟩ rfl (x := (0 : Int32)) (by decide) rfl rfl rfl (List.mem_singleton.mpr rfl) dX10_looks_12 (fun H locs h_5 eh_5 hW hT hs => ?_)
  replace f_2 := (hs.o (gx.S hM) trivial rfl).1.trans f_2
  replace f_4 := (hs.o (gx.S hM) trivial rfl).1.trans f_4
  replace hM := hM.tr (hs.mono (by decide))
  have f_6 : h_5.2.1 x 69 = (0 : Int32) := by rw [eh_5]; exact hx_pi_at _ _ _ _
  refine lv_aload_n hx hb dX10_looks_15 rfl (lv_at hl 0 rfl) ?_
  refine lv_iconst (v := 0) hx hb dX10_looks_16 (by decide) ?_
  refine hx_puti hx hb hts hC_10 hown hW hT (hx_S.rf (M := [(10, 70)])) (gx.S hM) tt_10 70 (by decide) rfl kw_1213 ⟨rfl, rfl, rfl⟩ rfl (x := (0 : Int32)) (by decide) rfl rfl rfl (List.mem_singleton.mpr rfl) dX10_looks_17 (fun H locs h_7 eh_7 hW hT hs => ?_)
  replace f_2 := (hs.o (gx.S hM) trivial rfl).1.trans f_2
  replace f_4 := (hs.o (gx.S hM) trivial rfl).1.trans f_4
  replace f_6 := (hs.o (gx.S hM) trivial rfl).1.trans f_6
  replace hM := hM.tr (hs.mono (by decide))
  have f_8 : h_7.2.1 x 70 = (0 : Int32) := by rw [eh_7]; exact hx_pi_at _ _ _ _
  have join49 : ∀ (jw49_x_71 : Int32) (H : Heap) (locs : List Loc) (hL1 : List Nat) (hl1 : hx_h), 0 ≤ jw49_x_71.toInt → jw49_x_71.toInt ≤ 8 → (jw49_x_71.toInt ≤ 3) → ∀ (ls : Array Slot), hx_W T_tb (P_ty dA) (dC, dI) vwCl (hx_A L sz) s.heap hL1 hl1 s H locs → hx_T T_tb hL1 hl1 → hx_S T_tb [(10, 67), (10, 68), (10, 69), (10, 70), (10, 71)] L h hL1 hl1 → hl1.2.1 x 71 = jw49_x_71 → hl1.2.1 x 67 = (0 : Int32) → hl1.2.1 x 68 = (0 : Int32) → hl1.2.1 x 69 = (0 : Int32) → hl1.2.1 x 70 = (0 : Int32) → lv_has ls 9 [(0, .ref x), (1, .int i1), (2, .int i2), (3, .int i3)] → W p l e ({ frames := 1, cells := 0, slots := 0, locals := 22 }) s m ([.ref x, .int i1, .int i2, .int i3] : List Value).toArray below meth c H locs 0 0 (MQ below (va_Qv (fun (u : List Nat × hx_h) => (∃ (rs1 : Int32) (st1 : Int32) (pd1 : Int32), u.2.2.1 x 68 = rs1 ∧ u.2.2.1 x 71 = st1 ∧ u.2.2.1 x 67 = pd1 ∧ (4 ≤ st1.toInt ∧ st1.toInt ≤ 6 → 1 ≤ rs1.toInt)) ∧ hx_T T_tb u.1 u.2 ∧ hx_S T_tb [(10, 67), (10, 68), (10, 69), (10, 70), (10, 71)] L h u.1 u.2) (hx_E T_tb (P_ty dA) (dC, dI) vwCl (hx_A L sz)) (hx_A L sz)) ([.ref x, .int i1, .int i2, .int i3] : List Value).toArray s 0 0 (hx_A L sz)) (F0 m 49 ls []) := by
    intro jw49_x_71 H locs hL1 hl1 bljw49_x_71 bujw49_x_71 vj49_0 ls hW hT hM fjw49_x_71 f_2 f_4 f_6 f_8  hl
    have join88 : ∀ (jw88_x_71 : Int32) (H : Heap) (locs : List Loc) (hL1 : List Nat) (hl1 : hx_h), 0 ≤ jw88_x_71.toInt → jw88_x_71.toInt ≤ 8 → (jw88_x_71.toInt ≤ 3) → ∀ (ls : Array Slot), hx_W T_tb (P_ty dA) (dC, dI) vwCl (hx_A L sz) s.heap hL1 hl1 s H locs → hx_T T_tb hL1 hl1 → hx_S T_tb [(10, 67), (10, 68), (10, 69), (10, 70), (10, 71)] L h hL1 hl1 → hl1.2.1 x 71 = jw88_x_71 → hl1.2.1 x 67 = (0 : Int32) → hl1.2.1 x 68 = (0 : Int32) → hl1.2.1 x 69 = (0 : Int32) → hl1.2.1 x 70 = (0 : Int32) → lv_has ls 9 [(0, .ref x), (1, .int i1), (2, .int i2), (3, .int i3)] → W p l e ({ frames := 1, cells := 0, slots := 0, locals := 22 }) s m ([.ref x, .int i1, .int i2, .int i3] : List Value).toArray below meth c H locs 0 0 (MQ below (va_Qv (fun (u : List Nat × hx_h) => (∃ (rs1 : Int32) (st1 : Int32) (pd1 : Int32), u.2.2.1 x 68 = rs1 ∧ u.2.2.1 x 71 = st1 ∧ u.2.2.1 x 67 = pd1 ∧ (4 ≤ st1.toInt ∧ st1.toInt ≤ 6 → 1 ≤ rs1.toInt)) ∧ hx_T T_tb u.1 u.2 ∧ hx_S T_tb [(10, 67), (10, 68), (10, 69), (10, 70), (10, 71)] L h u.1 u.2) (hx_E T_tb (P_ty dA) (dC, dI) vwCl (hx_A L sz)) (hx_A L sz)) ([.ref x, .int i1, .int i2, .int i3] : List Value).toArray s 0 0 (hx_A L sz)) (F0 m 88 ls []) := by
      intro jw88_x_71 H locs hL1 hl1 bljw88_x_71 bujw88_x_71 vj88_0 ls hW hT hM fjw88_x_71 f_2 f_4 f_6 f_8  hl
      refine lv_aload_n hx hb dX10_looks_88 rfl (lv_at hl 0 rfl) ?_
      refine hx_getn hx hb hts hC_10 hown hW hT (gx.S hM) tt_10 48 (by decide) rfl kw_1191 ⟨rfl, rfl, rfl⟩ dX10_looks_89 (fun q_9 fq_9 gq_9 => ?_)
      refine lv_iload_n hx hb dX10_looks_92 rfl (lv_at hl 1 rfl) ?_
      refine hx_iald hx hb hW hT gq_9 tt_83 rfl ⟨by omega, by omega⟩ dX10_looks_93 (fun x_10 ex_10 lx_10 ux_10 => ?_)
      refine lv_iconst (v := -1) hx hb dX10_looks_94 (by decide) ?_
      refine hb_icmp_eq (zx := x_10.toInt) (zy := (-1)) (tgt := 108) hx hb rfl (by decide) dX10_looks_95 (by decide) (fun c_11 => ?_) (fun c_11 => ?_)
      · skip
        have zo_0 : (0 : Int32).toInt = 0 := by decide
        have zo_0 : (0 : Int32).toInt = 0 := by decide
        exact hx_retv hx hb hr hlk hW ⟨⟨(0 : Int32), jw88_x_71, (0 : Int32), f_4, fjw88_x_71, f_2, (by first | omega | (refine ⟨?_, ?_⟩ <;> omega))⟩, hT, hM⟩ dX10_looks_108
      · skip
        refine lv_aload_n hx hb dX10_looks_98 rfl (lv_at hl 0 rfl) ?_
        refine hk_getr hx hb hts hC_10 hown hW (gx.S hM) tt_10 48 (by decide) rfl kw_1191 ⟨rfl, rfl, rfl⟩ fq_9 dX10_looks_99 ?_
        refine lv_iload_n hx hb dX10_looks_102 rfl (lv_at hl 1 rfl) ?_
        refine hx_iald hx hb hW hT gq_9 tt_83 rfl ⟨by omega, by omega⟩ dX10_looks_103 (fun x_12 ex_12 lx_12 ux_12 => ?_)
        obtain rfl : x_10 = x_12 := ex_10.trans ex_12.symm
        refine lv_iload_n hx hb dX10_looks_104 rfl (lv_at hl 2 rfl) ?_
        refine hb_icmp_le (zx := x_10.toInt) (zy := i2.toInt) (tgt := 109) hx hb rfl rfl dX10_looks_105 (by decide) (fun c_13 => ?_) (fun c_13 => ?_)
        · skip
          have join136 : ∀ (jv136_4 : Int32) (H : Heap) (locs : List Loc) (hL1 : List Nat) (hl1 : hx_h), 0 ≤ jv136_4.toInt → jv136_4.toInt ≤ 1 → ∀ (ls : Array Slot), hx_W T_tb (P_ty dA) (dC, dI) vwCl (hx_A L sz) s.heap hL1 hl1 s H locs → hx_T T_tb hL1 hl1 → hx_S T_tb [(10, 67), (10, 68), (10, 69), (10, 70), (10, 71)] L h hL1 hl1 → hl1.2.1 x 67 = (0 : Int32) → hl1.2.1 x 68 = (0 : Int32) → hl1.2.1 x 69 = (0 : Int32) → hl1.2.1 x 70 = (0 : Int32) → hl1.2.1 x 71 = jw88_x_71 → hl1.2.2 x 48 = some q_9 → hx_g hL1 hl1 q_9 83 → lv_has ls 9 [(4, .int jv136_4), (0, .ref x), (1, .int i1), (2, .int i2), (3, .int i3)] → W p l e ({ frames := 1, cells := 0, slots := 0, locals := 22 }) s m ([.ref x, .int i1, .int i2, .int i3] : List Value).toArray below meth c H locs 0 0 (MQ below (va_Qv (fun (u : List Nat × hx_h) => (∃ (rs1 : Int32) (st1 : Int32) (pd1 : Int32), u.2.2.1 x 68 = rs1 ∧ u.2.2.1 x 71 = st1 ∧ u.2.2.1 x 67 = pd1 ∧ (4 ≤ st1.toInt ∧ st1.toInt ≤ 6 → 1 ≤ rs1.toInt)) ∧ hx_T T_tb u.1 u.2 ∧ hx_S T_tb [(10, 67), (10, 68), (10, 69), (10, 70), (10, 71)] L h u.1 u.2) (hx_E T_tb (P_ty dA) (dC, dI) vwCl (hx_A L sz)) (hx_A L sz)) ([.ref x, .int i1, .int i2, .int i3] : List Value).toArray s 0 0 (hx_A L sz)) (F0 m 136 ls []) := by
            intro jv136_4 H locs hL1 hl1 bljv136_4 bujv136_4  ls hW hT hM f_2 f_4 f_6 f_8 fjw88_x_71 fq_9 gq_9 hl
            refine lv_iconst (v := 0) hx hb dX10_looks_136 (by decide) ?_
            refine lv_istore (lv' := [(5, .int (0 : Int32)), (4, .int jv136_4), (0, .ref x), (1, .int i1), (2, .int i2), (3, .int i3)]) hx hb dX10_looks_137 hl (by decide) rfl (fun ls hl => ?_)
            have loop139 : ∀ (n139 : Nat) (iv139_5 fw139_x_67 : Int32) (H : Heap) (locs : List Loc) (hL1 : List Nat) (hl1 : hx_h), 0 ≤ iv139_5.toInt → iv139_5.toInt ≤ 600 → 0 ≤ fw139_x_67.toInt → fw139_x_67.toInt ≤ 366100000 → (fw139_x_67.toInt ≤ 610000 * iv139_5.toInt) → ∀ (ls : Array Slot), 600 - iv139_5.toInt < (n139 : Int) → hx_W T_tb (P_ty dA) (dC, dI) vwCl (hx_A L sz) s.heap hL1 hl1 s H locs → hx_T T_tb hL1 hl1 → hx_S T_tb [(10, 67), (10, 68), (10, 69), (10, 70), (10, 71)] L h hL1 hl1 → hl1.2.1 x 67 = fw139_x_67 → hl1.2.1 x 68 = (0 : Int32) → hl1.2.1 x 69 = (0 : Int32) → hl1.2.1 x 70 = (0 : Int32) → hl1.2.1 x 71 = jw88_x_71 → hl1.2.2 x 48 = some q_9 → hx_g hL1 hl1 q_9 83 → lv_has ls 9 [(5, .int iv139_5), (4, .int jv136_4), (0, .ref x), (1, .int i1), (2, .int i2), (3, .int i3)] → W p l e ({ frames := 1, cells := 0, slots := 0, locals := 22 }) s m ([.ref x, .int i1, .int i2, .int i3] : List Value).toArray below meth c H locs 0 0 (MQ below (va_Qv (fun (u : List Nat × hx_h) => (∃ (rs1 : Int32) (st1 : Int32) (pd1 : Int32), u.2.2.1 x 68 = rs1 ∧ u.2.2.1 x 71 = st1 ∧ u.2.2.1 x 67 = pd1 ∧ (4 ≤ st1.toInt ∧ st1.toInt ≤ 6 → 1 ≤ rs1.toInt)) ∧ hx_T T_tb u.1 u.2 ∧ hx_S T_tb [(10, 67), (10, 68), (10, 69), (10, 70), (10, 71)] L h u.1 u.2) (hx_E T_tb (P_ty dA) (dC, dI) vwCl (hx_A L sz)) (hx_A L sz)) ([.ref x, .int i1, .int i2, .int i3] : List Value).toArray s 0 0 (hx_A L sz)) (F0 m 139 ls []) := by
              intro n139
              induction n139 with
              | zero => intro iv139_5 fw139_x_67 H locs hL1 hl1 bliv139_5 buiv139_5 blfw139_x_67 bufw139_x_67 vi139_0 ls hn139; exfalso; omega
              | succ n139 ih139 =>
                intro iv139_5 fw139_x_67 H locs hL1 hl1 bliv139_5 buiv139_5 blfw139_x_67 bufw139_x_67 vi139_0 ls hn139 hW hT hM ffw139_x_67 f_4 f_6 f_8 fjw88_x_71 fq_9 gq_9 hl
                refine lv_iload hx hb dX10_looks_139 (lv_at hl 0 rfl) ?_
                refine lv_aload_n hx hb dX10_looks_141 rfl (lv_at hl 2 rfl) ?_
                refine hx_geti hx hb hts hC_10 hown hW hT (gx.S hM) tt_10 59 (by decide) rfl kw_1202 ⟨rfl, rfl, rfl⟩ dX10_looks_142 (fun x_14 ex_14 lx_14 ux_14 => ?_)
                have fx_14 := ex_14.symm
                refine hb_icmp_ge (zx := iv139_5.toInt) (zy := x_14.toInt) (tgt := 225) hx hb rfl rfl dX10_looks_145 (by decide) (fun c_15 => ?_) (fun c_15 => ?_)
                · skip
                  have join279 : ∀ (jv279_5 jw279_x_67 : Int32) (H : Heap) (locs : List Loc) (hL1 : List Nat) (hl1 : hx_h), 0 ≤ jv279_5.toInt → jv279_5.toInt ≤ 609999 → 0 ≤ jw279_x_67.toInt → jw279_x_67.toInt ≤ 366100000 → ∀ (ls : Array Slot), hx_W T_tb (P_ty dA) (dC, dI) vwCl (hx_A L sz) s.heap hL1 hl1 s H locs → hx_T T_tb hL1 hl1 → hx_S T_tb [(10, 67), (10, 68), (10, 69), (10, 70), (10, 71)] L h hL1 hl1 → hl1.2.1 x 67 = jw279_x_67 → hl1.2.1 x 68 = (0 : Int32) → hl1.2.1 x 69 = (0 : Int32) → hl1.2.1 x 70 = (0 : Int32) → hl1.2.2 x 48 = some q_9 → hl1.2.1 x 59 = x_14 → hx_g hL1 hl1 q_9 83 → lv_has ls 9 [(5, .int jv279_5), (4, .int jv136_4), (0, .ref x), (1, .int i1), (2, .int i2), (3, .int i3)] → W p l e ({ frames := 1, cells := 0, slots := 0, locals := 22 }) s m ([.ref x, .int i1, .int i2, .int i3] : List Value).toArray below meth c H locs 0 0 (MQ below (va_Qv (fun (u : List Nat × hx_h) => (∃ (rs1 : Int32) (st1 : Int32) (pd1 : Int32), u.2.2.1 x 68 = rs1 ∧ u.2.2.1 x 71 = st1 ∧ u.2.2.1 x 67 = pd1 ∧ (4 ≤ st1.toInt ∧ st1.toInt ≤ 6 → 1 ≤ rs1.toInt)) ∧ hx_T T_tb u.1 u.2 ∧ hx_S T_tb [(10, 67), (10, 68), (10, 69), (10, 70), (10, 71)] L h u.1 u.2) (hx_E T_tb (P_ty dA) (dC, dI) vwCl (hx_A L sz)) (hx_A L sz)) ([.ref x, .int i1, .int i2, .int i3] : List Value).toArray s 0 0 (hx_A L sz)) (F0 m 279 ls []) := by
                    intro jv279_5 jw279_x_67 H locs hL1 hl1 bljv279_5 bujv279_5 bljw279_x_67 bujw279_x_67  ls hW hT hM fjw279_x_67 f_4 f_6 f_8 fq_9 fx_14 gq_9 hl
                    refine lv_aload_n hx hb dX10_looks_279 rfl (lv_at hl 2 rfl) ?_
                    refine hx_getn hx hb hts hC_10 hown hW hT (gx.S hM) tt_10 50 (by decide) rfl kw_1193 ⟨rfl, rfl, rfl⟩ dX10_looks_280 (fun q_16 fq_16 gq_16 => ?_)
                    refine lv_iload_n hx hb dX10_looks_283 rfl (lv_at hl 3 rfl) ?_
                    refine hx_iald hx hb hW hT gq_16 tt_85 rfl ⟨by omega, by omega⟩ dX10_looks_284 (fun x_17 ex_17 lx_17 ux_17 => ?_)
                    refine lv_iconst (v := -1) hx hb dX10_looks_285 (by decide) ?_
                    refine hb_icmp_eq (zx := x_17.toInt) (zy := (-1)) (tgt := 306) hx hb rfl (by decide) dX10_looks_286 (by decide) (fun c_18 => ?_) (fun c_18 => ?_)
                    · skip
                      have join330 : ∀ (jw330_x_68 : Int32) (H : Heap) (locs : List Loc) (hL1 : List Nat) (hl1 : hx_h), 0 ≤ jw330_x_68.toInt → jw330_x_68.toInt ≤ 610000 → ∀ (ls : Array Slot), hx_W T_tb (P_ty dA) (dC, dI) vwCl (hx_A L sz) s.heap hL1 hl1 s H locs → hx_T T_tb hL1 hl1 → hx_S T_tb [(10, 67), (10, 68), (10, 69), (10, 70), (10, 71)] L h hL1 hl1 → hl1.2.1 x 68 = jw330_x_68 → hl1.2.1 x 69 = (0 : Int32) → hl1.2.1 x 70 = (0 : Int32) → hl1.2.2 x 48 = some q_9 → hl1.2.1 x 59 = x_14 → hl1.2.1 x 67 = jw279_x_67 → hl1.2.2 x 50 = some q_16 → hx_g hL1 hl1 q_9 83 → hx_g hL1 hl1 q_16 85 → lv_has ls 9 [(5, .int jv279_5), (4, .int jv136_4), (0, .ref x), (1, .int i1), (2, .int i2), (3, .int i3)] → W p l e ({ frames := 1, cells := 0, slots := 0, locals := 22 }) s m ([.ref x, .int i1, .int i2, .int i3] : List Value).toArray below meth c H locs 0 0 (MQ below (va_Qv (fun (u : List Nat × hx_h) => (∃ (rs1 : Int32) (st1 : Int32) (pd1 : Int32), u.2.2.1 x 68 = rs1 ∧ u.2.2.1 x 71 = st1 ∧ u.2.2.1 x 67 = pd1 ∧ (4 ≤ st1.toInt ∧ st1.toInt ≤ 6 → 1 ≤ rs1.toInt)) ∧ hx_T T_tb u.1 u.2 ∧ hx_S T_tb [(10, 67), (10, 68), (10, 69), (10, 70), (10, 71)] L h u.1 u.2) (hx_E T_tb (P_ty dA) (dC, dI) vwCl (hx_A L sz)) (hx_A L sz)) ([.ref x, .int i1, .int i2, .int i3] : List Value).toArray s 0 0 (hx_A L sz)) (F0 m 330 ls []) := by
                        intro jw330_x_68 H locs hL1 hl1 bljw330_x_68 bujw330_x_68  ls hW hT hM fjw330_x_68 f_6 f_8 fq_9 fx_14 fjw279_x_67 fq_16 gq_9 gq_16 hl
                        have join354 : ∀ (jw354_x_69 : Int32) (H : Heap) (locs : List Loc) (hL1 : List Nat) (hl1 : hx_h), -2147483648 ≤ jw354_x_69.toInt → jw354_x_69.toInt ≤ 2147483647 → ∀ (ls : Array Slot), hx_W T_tb (P_ty dA) (dC, dI) vwCl (hx_A L sz) s.heap hL1 hl1 s H locs → hx_T T_tb hL1 hl1 → hx_S T_tb [(10, 67), (10, 68), (10, 69), (10, 70), (10, 71)] L h hL1 hl1 → hl1.2.1 x 69 = jw354_x_69 → hl1.2.1 x 70 = (0 : Int32) → hl1.2.2 x 48 = some q_9 → hl1.2.1 x 59 = x_14 → hl1.2.1 x 67 = jw279_x_67 → hl1.2.2 x 50 = some q_16 → hl1.2.1 x 68 = jw330_x_68 → hx_g hL1 hl1 q_9 83 → hx_g hL1 hl1 q_16 85 → lv_has ls 9 [(5, .int jv279_5), (4, .int jv136_4), (0, .ref x), (1, .int i1), (2, .int i2), (3, .int i3)] → W p l e ({ frames := 1, cells := 0, slots := 0, locals := 22 }) s m ([.ref x, .int i1, .int i2, .int i3] : List Value).toArray below meth c H locs 0 0 (MQ below (va_Qv (fun (u : List Nat × hx_h) => (∃ (rs1 : Int32) (st1 : Int32) (pd1 : Int32), u.2.2.1 x 68 = rs1 ∧ u.2.2.1 x 71 = st1 ∧ u.2.2.1 x 67 = pd1 ∧ (4 ≤ st1.toInt ∧ st1.toInt ≤ 6 → 1 ≤ rs1.toInt)) ∧ hx_T T_tb u.1 u.2 ∧ hx_S T_tb [(10, 67), (10, 68), (10, 69), (10, 70), (10, 71)] L h u.1 u.2) (hx_E T_tb (P_ty dA) (dC, dI) vwCl (hx_A L sz)) (hx_A L sz)) ([.ref x, .int i1, .int i2, .int i3] : List Value).toArray s 0 0 (hx_A L sz)) (F0 m 354 ls []) := by
                          intro jw354_x_69 H locs hL1 hl1 bljw354_x_69 bujw354_x_69  ls hW hT hM fjw354_x_69 f_8 fq_9 fx_14 fjw279_x_67 fq_16 fjw330_x_68 gq_9 gq_16 hl
                          have join437 : ∀ (jw437_x_70 : Int32) (H : Heap) (locs : List Loc) (hL1 : List Nat) (hl1 : hx_h), -2147483648 ≤ jw437_x_70.toInt → jw437_x_70.toInt ≤ 2147483647 → ∀ (ls : Array Slot), hx_W T_tb (P_ty dA) (dC, dI) vwCl (hx_A L sz) s.heap hL1 hl1 s H locs → hx_T T_tb hL1 hl1 → hx_S T_tb [(10, 67), (10, 68), (10, 69), (10, 70), (10, 71)] L h hL1 hl1 → hl1.2.1 x 70 = jw437_x_70 → hl1.2.2 x 48 = some q_9 → hl1.2.1 x 59 = x_14 → hl1.2.1 x 67 = jw279_x_67 → hl1.2.2 x 50 = some q_16 → hl1.2.1 x 68 = jw330_x_68 → hl1.2.1 x 69 = jw354_x_69 → hx_g hL1 hl1 q_9 83 → hx_g hL1 hl1 q_16 85 → lv_has ls 9 [(5, .int jv279_5), (4, .int jv136_4), (0, .ref x), (1, .int i1), (2, .int i2), (3, .int i3)] → W p l e ({ frames := 1, cells := 0, slots := 0, locals := 22 }) s m ([.ref x, .int i1, .int i2, .int i3] : List Value).toArray below meth c H locs 0 0 (MQ below (va_Qv (fun (u : List Nat × hx_h) => (∃ (rs1 : Int32) (st1 : Int32) (pd1 : Int32), u.2.2.1 x 68 = rs1 ∧ u.2.2.1 x 71 = st1 ∧ u.2.2.1 x 67 = pd1 ∧ (4 ≤ st1.toInt ∧ st1.toInt ≤ 6 → 1 ≤ rs1.toInt)) ∧ hx_T T_tb u.1 u.2 ∧ hx_S T_tb [(10, 67), (10, 68), (10, 69), (10, 70), (10, 71)] L h u.1 u.2) (hx_E T_tb (P_ty dA) (dC, dI) vwCl (hx_A L sz)) (hx_A L sz)) ([.ref x, .int i1, .int i2, .int i3] : List Value).toArray s 0 0 (hx_A L sz)) (F0 m 437 ls []) := by
                            intro jw437_x_70 H locs hL1 hl1 bljw437_x_70 bujw437_x_70  ls hW hT hM fjw437_x_70 fq_9 fx_14 fjw279_x_67 fq_16 fjw330_x_68 fjw354_x_69 gq_9 gq_16 hl
                            refine lv_aload_n hx hb dX10_looks_437 rfl (lv_at hl 2 rfl) ?_
                            refine lv_aload_n hx hb dX10_looks_438 rfl (lv_at hl 2 rfl) ?_
                            refine hx_getn hx hb hts hC_10 hown hW hT (gx.S hM) tt_10 44 (by decide) rfl kw_1187 ⟨rfl, rfl, rfl⟩ dX10_looks_439 (fun q_19 fq_19 gq_19 => ?_)
                            refine lv_iload_n hx hb dX10_looks_442 rfl (lv_at hl 3 rfl) ?_
                            refine hx_iald hx hb hW hT gq_19 tt_79 rfl ⟨by omega, by omega⟩ dX10_looks_443 (fun x_20 ex_20 lx_20 ux_20 => ?_)
                            refine lv_iconst (v := 4) hx hb dX10_looks_444 (by decide) ?_
                            have zc_4 : (4 : Int32).toInt = 4 := by decide
                            refine hx_goi (hx_runV (As := [.int x_20, .int (4 : Int32)]) (rest := []) ⟨hx, hb, hml, hown, hts⟩ hW (gx.S hM) tt_10 (T := TX10) (N := 98) rfl (t_X10_ruleOf l dC dI dA hL1 hl1 H.size x x_20 (4 : Int32) hT (gx.S hM) ⟨by omega, by omega⟩ (by decide)) (cwV 2 hts (hx_gV kw_1533 kw_1530 kw_1532 kw_66 kw_103) rfl rfl rfl (by decide +kernel) ⟨Nat.le_of_ble_eq_true rfl, Nat.le_of_ble_eq_true rfl⟩) rfl hl.1 rfl (Nat.le_of_ble_eq_true rfl) dX10_looks_445 ⟨Nat.le_of_ble_eq_true rfl, Nat.le_of_ble_eq_true rfl⟩) hW (fun r_23 L_21 h_22 H locs p_24 hW => ?_)
                            obtain ⟨hr_25, hT, hs⟩ := p_24
                            replace hT : hx_T T_tb L_21 h_22 := hT
                            replace hs : hx_S T_tb [] hL1 hl1 L_21 h_22 := hs
                            replace fq_9 := (hs.o (gx.S hM) trivial rfl).2.trans fq_9
                            replace fx_14 := (hs.o (gx.S hM) trivial rfl).1.trans fx_14
                            replace fjw279_x_67 := (hs.o (gx.S hM) trivial rfl).1.trans fjw279_x_67
                            replace fq_16 := (hs.o (gx.S hM) trivial rfl).2.trans fq_16
                            replace fjw330_x_68 := (hs.o (gx.S hM) trivial rfl).1.trans fjw330_x_68
                            replace fjw354_x_69 := (hs.o (gx.S hM) trivial rfl).1.trans fjw354_x_69
                            replace fjw437_x_70 := (hs.o (gx.S hM) trivial rfl).1.trans fjw437_x_70
                            replace fq_19 := (hs.o (gx.S hM) trivial rfl).2.trans fq_19
                            replace ex_20 := ex_20.trans (hs.a gq_19 rfl _).1.symm
                            replace hM := hM.tr (hs.mono (by decide))
                            replace gq_9 := gq_9.S hs
                            replace gq_16 := gq_16.S hs
                            replace gq_19 := gq_19.S hs
                            refine lv_istore (lv' := [(8, .int r_23), (5, .int jv279_5), (4, .int jv136_4), (0, .ref x), (1, .int i1), (2, .int i2), (3, .int i3)]) hx hb dX10_looks_448 hl (by decide) rfl (fun ls hl => ?_)
                            refine lv_aload_n hx hb dX10_looks_450 rfl (lv_at hl 3 rfl) ?_
                            refine lv_aload_n hx hb dX10_looks_451 rfl (lv_at hl 3 rfl) ?_
                            refine hk_geti hx hb hts hC_10 hown hW (gx.S hM) tt_10 68 (by decide) rfl kw_1211 ⟨rfl, rfl, rfl⟩ fjw330_x_68 dX10_looks_452 ?_
                            refine hb_if_ne (zx := jw330_x_68.toInt) (tgt := 463) hx hb rfl dX10_looks_455 (by decide) (fun c_26 => ?_) (fun c_26 => ?_)
                            · skip
                              refine lv_aload_n hx hb dX10_looks_463 rfl (lv_at hl 3 rfl) ?_
                              refine hk_geti hx hb hts hC_10 hown hW (gx.S hM) tt_10 70 (by decide) rfl kw_1213 ⟨rfl, rfl, rfl⟩ fjw437_x_70 dX10_looks_464 ?_
                              refine lv_iload hx hb dX10_looks_467 (lv_at hl 0 rfl) ?_
                              refine lv_aload_n hx hb dX10_looks_469 rfl (lv_at hl 3 rfl) ?_
                              refine lv_aload_n hx hb dX10_looks_470 rfl (lv_at hl 3 rfl) ?_
                              refine hk_getr hx hb hts hC_10 hown hW (gx.S hM) tt_10 44 (by decide) rfl kw_1187 ⟨rfl, rfl, rfl⟩ fq_19 dX10_looks_471 ?_
                              refine lv_iload_n hx hb dX10_looks_474 rfl (lv_at hl 4 rfl) ?_
                              refine hx_iald hx hb hW hT gq_19 tt_79 rfl ⟨by omega, by omega⟩ dX10_looks_475 (fun x_27 ex_27 lx_27 ux_27 => ?_)
                              obtain rfl : x_20 = x_27 := ex_20.trans ex_27.symm
                              refine lv_iconst (v := 5) hx hb dX10_looks_476 (by decide) ?_
                              have zc_5 : (5 : Int32).toInt = 5 := by decide
                              refine hx_goi (hx_runV (As := [.int x_20, .int (5 : Int32)]) (rest := [.int r_23, .int jw437_x_70, .ref x]) ⟨hx, hb, hml, hown, hts⟩ hW (gx.S hM) tt_10 (T := TX10) (N := 98) rfl (t_X10_ruleOf l dC dI dA L_21 h_22 H.size x x_20 (5 : Int32) hT (gx.S hM) ⟨by omega, by omega⟩ (by decide)) (cwV 2 hts (hx_gV kw_1533 kw_1530 kw_1532 kw_66 kw_103) rfl rfl rfl (by decide +kernel) ⟨Nat.le_of_ble_eq_true rfl, Nat.le_of_ble_eq_true rfl⟩) rfl hl.1 rfl (Nat.le_of_ble_eq_true rfl) dX10_looks_477 ⟨Nat.le_of_ble_eq_true rfl, Nat.le_of_ble_eq_true rfl⟩) hW (fun r_30 L_28 h_29 H locs p_31 hW => ?_)
                              obtain ⟨hr_32, hT, hs⟩ := p_31
                              replace hT : hx_T T_tb L_28 h_29 := hT
                              replace hs : hx_S T_tb [] L_21 h_22 L_28 h_29 := hs
                              replace fq_9 := (hs.o (gx.S hM) trivial rfl).2.trans fq_9
                              replace fx_14 := (hs.o (gx.S hM) trivial rfl).1.trans fx_14
                              replace fjw279_x_67 := (hs.o (gx.S hM) trivial rfl).1.trans fjw279_x_67
                              replace fq_16 := (hs.o (gx.S hM) trivial rfl).2.trans fq_16
                              replace fjw330_x_68 := (hs.o (gx.S hM) trivial rfl).1.trans fjw330_x_68
                              replace fjw354_x_69 := (hs.o (gx.S hM) trivial rfl).1.trans fjw354_x_69
                              replace fjw437_x_70 := (hs.o (gx.S hM) trivial rfl).1.trans fjw437_x_70
                              replace fq_19 := (hs.o (gx.S hM) trivial rfl).2.trans fq_19
                              replace ex_20 := ex_20.trans (hs.a gq_19 rfl _).1.symm
                              replace hM := hM.tr (hs.mono (by decide))
                              replace gq_9 := gq_9.S hs
                              replace gq_16 := gq_16.S hs
                              replace gq_19 := gq_19.S hs
                              refine lv_iadd hx hb dX10_looks_480 ?_
                              have rg_33 := i32_r r_23
                              have rg_34 := i32_r r_30
                              refine lv_topi (fun x_35 ex_35 => ?_)
                              have zx_35 : x_35.toInt = r_23.toInt + r_30.toInt := by rw [ex_35]; exact i32_add rfl rfl (by omega) (by omega)
                              refine hb_icmp_lt (zx := jw437_x_70.toInt) (zy := x_35.toInt) (tgt := 489) hx hb rfl rfl dX10_looks_481 (by decide) (fun c_36 => ?_) (fun c_36 => ?_)
                              · skip
                                refine lv_aload_n hx hb dX10_looks_489 rfl (lv_at hl 3 rfl) ?_
                                refine hk_geti hx hb hts hC_10 hown hW (gx.S hM) tt_10 70 (by decide) rfl kw_1213 ⟨rfl, rfl, rfl⟩ fjw437_x_70 dX10_looks_490 ?_
                                refine lv_iload hx hb dX10_looks_493 (lv_at hl 0 rfl) ?_
                                have jn_503 : ∀ (xj_37 : Int32) (ls : Array Slot), 4 ≤ xj_37.toInt → xj_37.toInt ≤ 5 → lv_has ls 9 [(8, .int r_23), (5, .int jv279_5), (4, .int jv136_4), (0, .ref x), (1, .int i1), (2, .int i2), (3, .int i3)] → W p l e ({ frames := 1, cells := 0, slots := 0, locals := 22 }) s m ([.ref x, .int i1, .int i2, .int i3] : List Value).toArray below meth c H locs 0 0 (MQ below (va_Qv (fun (u : List Nat × hx_h) => (∃ (rs1 : Int32) (st1 : Int32) (pd1 : Int32), u.2.2.1 x 68 = rs1 ∧ u.2.2.1 x 71 = st1 ∧ u.2.2.1 x 67 = pd1 ∧ (4 ≤ st1.toInt ∧ st1.toInt ≤ 6 → 1 ≤ rs1.toInt)) ∧ hx_T T_tb u.1 u.2 ∧ hx_S T_tb [(10, 67), (10, 68), (10, 69), (10, 70), (10, 71)] L h u.1 u.2) (hx_E T_tb (P_ty dA) (dC, dI) vwCl (hx_A L sz)) (hx_A L sz)) ([.ref x, .int i1, .int i2, .int i3] : List Value).toArray s 0 0 (hx_A L sz)) (F0 m 503 ls [.int xj_37, .ref x]) := by
                                  intro xj_37 ls blxj_37 buxj_37 hl
                                  refine hx_puti hx hb hts hC_10 hown hW hT (hx_S.rf (M := [(10, 71)])) (gx.S hM) tt_10 71 (by decide) rfl kw_1214 ⟨rfl, rfl, rfl⟩ rfl (x := xj_37) ⟨by omega, by omega⟩ rfl rfl rfl (List.mem_singleton.mpr rfl) dX10_looks_503 (fun H locs h_38 eh_38 hW hT hs => ?_)
                                  replace fq_9 := (hs.o (gx.S hM) trivial rfl).2.trans fq_9
                                  replace fx_14 := (hs.o (gx.S hM) trivial rfl).1.trans fx_14
                                  replace fjw279_x_67 := (hs.o (gx.S hM) trivial rfl).1.trans fjw279_x_67
                                  replace fq_16 := (hs.o (gx.S hM) trivial rfl).2.trans fq_16
                                  replace fjw330_x_68 := (hs.o (gx.S hM) trivial rfl).1.trans fjw330_x_68
                                  replace fjw354_x_69 := (hs.o (gx.S hM) trivial rfl).1.trans fjw354_x_69
                                  replace fjw437_x_70 := (hs.o (gx.S hM) trivial rfl).1.trans fjw437_x_70
                                  replace fq_19 := (hs.o (gx.S hM) trivial rfl).2.trans fq_19
                                  replace ex_20 := ex_20.trans (hs.a gq_19 rfl _).1.symm
                                  replace hM := hM.tr (hs.mono (by decide))
                                  replace gq_9 := gq_9.S hs
                                  replace gq_16 := gq_16.S hs
                                  replace gq_19 := gq_19.S hs
                                  have f_39 : h_38.2.1 x 71 = xj_37 := by rw [eh_38]; exact hx_pi_at _ _ _ _
                                  exact hx_retv hx hb hr hlk hW ⟨⟨jw330_x_68, xj_37, jw279_x_67, fjw330_x_68, f_39, fjw279_x_67, (by first | omega | (refine ⟨?_, ?_⟩ <;> omega))⟩, hT, hM⟩ dX10_looks_506
                                refine hb_icmp_lt (zx := jw437_x_70.toInt) (zy := r_23.toInt) (tgt := 502) hx hb rfl rfl dX10_looks_495 (by decide) (fun c_40 => ?_) (fun c_40 => ?_)
                                · skip
                                  refine lv_iconst (v := 4) hx hb dX10_looks_502 (by decide) ?_
                                  exact jn_503 (4 : Int32) ls (by decide) (by decide) hl
                                · skip
                                  refine lv_iconst (v := 5) hx hb dX10_looks_498 (by decide) ?_
                                  refine lv_goto (tgt := 503) hx hb dX10_looks_499 (by decide) ?_
                                  exact jn_503 (5 : Int32) ls (by decide) (by decide) hl
                              · skip
                                refine lv_bipush (v := 6) hx hb dX10_looks_484 (by decide) ?_
                                refine lv_goto (tgt := 503) hx hb dX10_looks_486 (by decide) ?_
                                refine hx_puti hx hb hts hC_10 hown hW hT (hx_S.rf (M := [(10, 71)])) (gx.S hM) tt_10 71 (by decide) rfl kw_1214 ⟨rfl, rfl, rfl⟩ rfl (x := (6 : Int32)) (by decide) rfl rfl rfl (List.mem_singleton.mpr rfl) dX10_looks_503 (fun H locs h_41 eh_41 hW hT hs => ?_)
                                replace fq_9 := (hs.o (gx.S hM) trivial rfl).2.trans fq_9
                                replace fx_14 := (hs.o (gx.S hM) trivial rfl).1.trans fx_14
                                replace fjw279_x_67 := (hs.o (gx.S hM) trivial rfl).1.trans fjw279_x_67
                                replace fq_16 := (hs.o (gx.S hM) trivial rfl).2.trans fq_16
                                replace fjw330_x_68 := (hs.o (gx.S hM) trivial rfl).1.trans fjw330_x_68
                                replace fjw354_x_69 := (hs.o (gx.S hM) trivial rfl).1.trans fjw354_x_69
                                replace fjw437_x_70 := (hs.o (gx.S hM) trivial rfl).1.trans fjw437_x_70
                                replace fq_19 := (hs.o (gx.S hM) trivial rfl).2.trans fq_19
                                replace ex_20 := ex_20.trans (hs.a gq_19 rfl _).1.symm
                                replace hM := hM.tr (hs.mono (by decide))
                                replace gq_9 := gq_9.S hs
                                replace gq_16 := gq_16.S hs
                                replace gq_19 := gq_19.S hs
                                have f_42 : h_41.2.1 x 71 = (6 : Int32) := by rw [eh_41]; exact hx_pi_at _ _ _ _
                                have zo_6 : (6 : Int32).toInt = 6 := by decide
                                exact hx_retv hx hb hr hlk hW ⟨⟨jw330_x_68, (6 : Int32), jw279_x_67, fjw330_x_68, f_42, fjw279_x_67, (by first | omega | (refine ⟨?_, ?_⟩ <;> omega))⟩, hT, hM⟩ dX10_looks_506
                            · skip
                              refine lv_bipush (v := 7) hx hb dX10_looks_458 (by decide) ?_
                              refine lv_goto (tgt := 503) hx hb dX10_looks_460 (by decide) ?_
                              refine hx_puti hx hb hts hC_10 hown hW hT (hx_S.rf (M := [(10, 71)])) (gx.S hM) tt_10 71 (by decide) rfl kw_1214 ⟨rfl, rfl, rfl⟩ rfl (x := (7 : Int32)) (by decide) rfl rfl rfl (List.mem_singleton.mpr rfl) dX10_looks_503 (fun H locs h_43 eh_43 hW hT hs => ?_)
                              replace fq_9 := (hs.o (gx.S hM) trivial rfl).2.trans fq_9
                              replace fx_14 := (hs.o (gx.S hM) trivial rfl).1.trans fx_14
                              replace fjw279_x_67 := (hs.o (gx.S hM) trivial rfl).1.trans fjw279_x_67
                              replace fq_16 := (hs.o (gx.S hM) trivial rfl).2.trans fq_16
                              replace fjw330_x_68 := (hs.o (gx.S hM) trivial rfl).1.trans fjw330_x_68
                              replace fjw354_x_69 := (hs.o (gx.S hM) trivial rfl).1.trans fjw354_x_69
                              replace fjw437_x_70 := (hs.o (gx.S hM) trivial rfl).1.trans fjw437_x_70
                              replace fq_19 := (hs.o (gx.S hM) trivial rfl).2.trans fq_19
                              replace ex_20 := ex_20.trans (hs.a gq_19 rfl _).1.symm
                              replace hM := hM.tr (hs.mono (by decide))
                              replace gq_9 := gq_9.S hs
                              replace gq_16 := gq_16.S hs
                              replace gq_19 := gq_19.S hs
                              have f_44 : h_43.2.1 x 71 = (7 : Int32) := by rw [eh_43]; exact hx_pi_at _ _ _ _
                              have zo_7 : (7 : Int32).toInt = 7 := by decide
                              exact hx_retv hx hb hr hlk hW ⟨⟨jw330_x_68, (7 : Int32), jw279_x_67, fjw330_x_68, f_44, fjw279_x_67, (by first | omega | (refine ⟨?_, ?_⟩ <;> omega))⟩, hT, hM⟩ dX10_looks_506
                          refine lv_iload_n hx hb dX10_looks_354 rfl (lv_at hl 4 rfl) ?_
                          refine lv_aload_n hx hb dX10_looks_355 rfl (lv_at hl 2 rfl) ?_
                          refine hk_getr hx hb hts hC_10 hown hW (gx.S hM) tt_10 48 (by decide) rfl kw_1191 ⟨rfl, rfl, rfl⟩ fq_9 dX10_looks_356 ?_
                          refine lv_iload_n hx hb dX10_looks_359 rfl (lv_at hl 3 rfl) ?_
                          refine hx_iald hx hb hW hT gq_9 tt_83 rfl ⟨by omega, by omega⟩ dX10_looks_360 (fun x_45 ex_45 lx_45 ux_45 => ?_)
                          refine lv_isub hx hb dX10_looks_361 ?_
                          have rg_46 := i32_r i2
                          have rg_47 := i32_r x_45
                          refine lv_topi (fun x_48 ex_48 => ?_)
                          refine lv_bipush (v := 7) hx hb dX10_looks_362 (by decide) ?_
                          refine lv_idiv hx hb dX10_looks_364 (by decide) ?_
                          refine lv_topi (fun x_49 ex_49 => ?_)
                          have zx_49 : -1073741824 ≤ x_49.toInt ∧ x_49.toInt ≤ 1073741824 := by rw [ex_49]; exact hx_divb (by decide)
                          refine lv_istore (lv' := [(6, .int x_49), (5, .int jv279_5), (4, .int jv136_4), (0, .ref x), (1, .int i1), (2, .int i2), (3, .int i3)]) hx hb dX10_looks_365 hl (by decide) rfl (fun ls hl => ?_)
                          refine lv_aload_n hx hb dX10_looks_367 rfl (lv_at hl 3 rfl) ?_
                          refine hx_getn hx hb hts hC_10 hown hW hT (gx.S hM) tt_10 54 (by decide) rfl kw_1197 ⟨rfl, rfl, rfl⟩ dX10_looks_368 (fun q_50 fq_50 gq_50 => ?_)
                          refine lv_iload_n hx hb dX10_looks_371 rfl (lv_at hl 4 rfl) ?_
                          refine hx_iald hx hb hW hT gq_50 tt_89 rfl ⟨by omega, by omega⟩ dX10_looks_372 (fun x_51 ex_51 lx_51 ux_51 => ?_)
                          refine lv_iload hx hb dX10_looks_373 (lv_at hl 0 rfl) ?_
                          refine lv_imul hx hb dX10_looks_375 ?_
                          refine lv_topi (fun x_52 ex_52 => ?_)
                          have mx_52 : x_51.toInt = 0 → x_52.toInt = 0 := fun z => by rw [ex_52]; exact hx_mul0 z
                          refine lv_iload hx hb dX10_looks_376 (lv_at hl 1 rfl) ?_
                          refine hb_icmp_ge (zx := x_52.toInt) (zy := jv279_5.toInt) (tgt := 393) hx hb rfl rfl dX10_looks_378 (by decide) (fun c_53 => ?_) (fun c_53 => ?_)
                          · skip
                            refine lv_iload hx hb dX10_looks_393 (lv_at hl 1 rfl) ?_
                            refine lv_istore (lv' := [(7, .int jv279_5), (6, .int x_49), (5, .int jv279_5), (4, .int jv136_4), (0, .ref x), (1, .int i1), (2, .int i2), (3, .int i3)]) hx hb dX10_looks_395 hl (by decide) rfl (fun ls hl => ?_)
                            refine lv_aload_n hx hb dX10_looks_397 rfl (lv_at hl 4 rfl) ?_
                            refine lv_iload hx hb dX10_looks_398 (lv_at hl 0 rfl) ?_
                            refine lv_aload_n hx hb dX10_looks_400 rfl (lv_at hl 4 rfl) ?_
                            refine hk_geti hx hb hts hC_10 hown hW (gx.S hM) tt_10 67 (by decide) rfl kw_1210 ⟨rfl, rfl, rfl⟩ fjw279_x_67 dX10_looks_401 ?_
                            refine hb_icmp_le (zx := jv279_5.toInt) (zy := jw279_x_67.toInt) (tgt := 433) hx hb rfl rfl dX10_looks_404 (by decide) (fun c_54 => ?_) (fun c_54 => ?_)
                            · skip
                              refine lv_iconst (v := 0) hx hb dX10_looks_433 (by decide) ?_
                              refine hx_puti hx hb hts hC_10 hown hW hT (hx_S.rf (M := [(10, 70)])) (gx.S hM) tt_10 70 (by decide) rfl kw_1213 ⟨rfl, rfl, rfl⟩ rfl (x := (0 : Int32)) (by decide) rfl rfl rfl (List.mem_singleton.mpr rfl) dX10_looks_434 (fun H locs h_55 eh_55 hW hT hs => ?_)
                              replace fq_9 := (hs.o (gx.S hM) trivial rfl).2.trans fq_9
                              replace fx_14 := (hs.o (gx.S hM) trivial rfl).1.trans fx_14
                              replace fjw279_x_67 := (hs.o (gx.S hM) trivial rfl).1.trans fjw279_x_67
                              replace fq_16 := (hs.o (gx.S hM) trivial rfl).2.trans fq_16
                              replace fjw330_x_68 := (hs.o (gx.S hM) trivial rfl).1.trans fjw330_x_68
                              replace fjw354_x_69 := (hs.o (gx.S hM) trivial rfl).1.trans fjw354_x_69
                              replace fq_50 := (hs.o (gx.S hM) trivial rfl).2.trans fq_50
                              replace ex_45 := ex_45.trans (hs.a gq_9 rfl _).1.symm
                              replace ex_51 := ex_51.trans (hs.a gq_50 rfl _).1.symm
                              replace hM := hM.tr (hs.mono (by decide))
                              replace gq_9 := gq_9.S hs
                              replace gq_16 := gq_16.S hs
                              replace gq_50 := gq_50.S hs
                              have f_56 : h_55.2.1 x 70 = (0 : Int32) := by rw [eh_55]; exact hx_pi_at _ _ _ _
                              have zk_0 : (0 : Int32).toInt = 0 := by decide
                              exact join437 (0 : Int32) _ _ hL1 h_55 (by decide) (by decide)  ls hW hT hM f_56 fq_9 fx_14 fjw279_x_67 fq_16 fjw330_x_68 fjw354_x_69 gq_9 gq_16 (lv_sub hl [2, 3, 4, 5, 6, 7] rfl)
                            · skip
                              refine lv_iload hx hb dX10_looks_407 (lv_at hl 0 rfl) ?_
                              refine lv_aload_n hx hb dX10_looks_409 rfl (lv_at hl 4 rfl) ?_
                              refine hk_geti hx hb hts hC_10 hown hW (gx.S hM) tt_10 67 (by decide) rfl kw_1210 ⟨rfl, rfl, rfl⟩ fjw279_x_67 dX10_looks_410 ?_
                              refine lv_isub hx hb dX10_looks_413 ?_
                              have rg_57 := i32_r jv279_5
                              have rg_58 := i32_r jw279_x_67
                              refine lv_topi (fun x_59 ex_59 => ?_)
                              have zx_59 : x_59.toInt = jv279_5.toInt - jw279_x_67.toInt := by rw [ex_59]; exact i32_sub rfl rfl (by omega) (by omega)
                              refine lv_aload_n hx hb dX10_looks_414 rfl (lv_at hl 4 rfl) ?_
                              refine hk_getr hx hb hts hC_10 hown hW (gx.S hM) tt_10 54 (by decide) rfl kw_1197 ⟨rfl, rfl, rfl⟩ fq_50 dX10_looks_415 ?_
                              refine lv_iload_n hx hb dX10_looks_418 rfl (lv_at hl 5 rfl) ?_
                              refine hx_iald hx hb hW hT gq_50 tt_89 rfl ⟨by omega, by omega⟩ dX10_looks_419 (fun x_60 ex_60 lx_60 ux_60 => ?_)
                              obtain rfl : x_51 = x_60 := ex_51.trans ex_60.symm
                              refine lv_iadd hx hb dX10_looks_420 ?_
                              have rg_61 := i32_r x_59
                              have rg_62 := i32_r x_51
                              refine lv_topi (fun x_63 ex_63 => ?_)
                              refine lv_iconst (v := 1) hx hb dX10_looks_421 (by decide) ?_
                              refine lv_isub hx hb dX10_looks_422 ?_
                              have rg_64 := i32_r x_63
                              refine lv_topi (fun x_65 ex_65 => ?_)
                              refine lv_aload_n hx hb dX10_looks_423 rfl (lv_at hl 4 rfl) ?_
                              refine hk_getr hx hb hts hC_10 hown hW (gx.S hM) tt_10 54 (by decide) rfl kw_1197 ⟨rfl, rfl, rfl⟩ fq_50 dX10_looks_424 ?_
                              refine lv_iload_n hx hb dX10_looks_427 rfl (lv_at hl 5 rfl) ?_
                              refine hx_iald hx hb hW hT gq_50 tt_89 rfl ⟨by omega, by omega⟩ dX10_looks_428 (fun x_66 ex_66 lx_66 ux_66 => ?_)
                              obtain rfl : x_51 = x_66 := ex_51.trans ex_66.symm
                              refine lv_idiv hx hb dX10_looks_429 (hx_ne0 (by omega)) ?_
                              refine lv_topi (fun x_67 ex_67 => ?_)
                              refine lv_goto (tgt := 434) hx hb dX10_looks_430 (by decide) ?_
                              refine hx_puti hx hb hts hC_10 hown hW hT (hx_S.rf (M := [(10, 70)])) (gx.S hM) tt_10 70 (by decide) rfl kw_1213 ⟨rfl, rfl, rfl⟩ rfl (x := x_67) (i32_r _) rfl rfl rfl (List.mem_singleton.mpr rfl) dX10_looks_434 (fun H locs h_68 eh_68 hW hT hs => ?_)
                              replace fq_9 := (hs.o (gx.S hM) trivial rfl).2.trans fq_9
                              replace fx_14 := (hs.o (gx.S hM) trivial rfl).1.trans fx_14
                              replace fjw279_x_67 := (hs.o (gx.S hM) trivial rfl).1.trans fjw279_x_67
                              replace fq_16 := (hs.o (gx.S hM) trivial rfl).2.trans fq_16
                              replace fjw330_x_68 := (hs.o (gx.S hM) trivial rfl).1.trans fjw330_x_68
                              replace fjw354_x_69 := (hs.o (gx.S hM) trivial rfl).1.trans fjw354_x_69
                              replace fq_50 := (hs.o (gx.S hM) trivial rfl).2.trans fq_50
                              replace ex_45 := ex_45.trans (hs.a gq_9 rfl _).1.symm
                              replace ex_51 := ex_51.trans (hs.a gq_50 rfl _).1.symm
                              replace hM := hM.tr (hs.mono (by decide))
                              replace gq_9 := gq_9.S hs
                              replace gq_16 := gq_16.S hs
                              replace gq_50 := gq_50.S hs
                              have f_69 : h_68.2.1 x 70 = x_67 := by rw [eh_68]; exact hx_pi_at _ _ _ _
                              exact join437 x_67 _ _ hL1 h_68 (i32_r _).1 (i32_r _).2  ls hW hT hM f_69 fq_9 fx_14 fjw279_x_67 fq_16 fjw330_x_68 fjw354_x_69 gq_9 gq_16 (lv_sub hl [2, 3, 4, 5, 6, 7] rfl)
                          · skip
                            refine lv_aload_n hx hb dX10_looks_381 rfl (lv_at hl 3 rfl) ?_
                            refine hk_getr hx hb hts hC_10 hown hW (gx.S hM) tt_10 54 (by decide) rfl kw_1197 ⟨rfl, rfl, rfl⟩ fq_50 dX10_looks_382 ?_
                            refine lv_iload_n hx hb dX10_looks_385 rfl (lv_at hl 4 rfl) ?_
                            refine hx_iald hx hb hW hT gq_50 tt_89 rfl ⟨by omega, by omega⟩ dX10_looks_386 (fun x_70 ex_70 lx_70 ux_70 => ?_)
                            obtain rfl : x_51 = x_70 := ex_51.trans ex_70.symm
                            refine lv_iload hx hb dX10_looks_387 (lv_at hl 0 rfl) ?_
                            refine lv_imul hx hb dX10_looks_389 ?_
                            refine lv_topi (fun x_71 ex_71 => ?_)
                            have mx_71 : x_51.toInt = 0 → x_71.toInt = 0 := fun z => by rw [ex_71]; exact hx_mul0 z
                            refine lv_goto (tgt := 395) hx hb dX10_looks_390 (by decide) ?_
                            refine lv_istore (lv' := [(7, .int x_71), (6, .int x_49), (5, .int jv279_5), (4, .int jv136_4), (0, .ref x), (1, .int i1), (2, .int i2), (3, .int i3)]) hx hb dX10_looks_395 hl (by decide) rfl (fun ls hl => ?_)
                            refine lv_aload_n hx hb dX10_looks_397 rfl (lv_at hl 4 rfl) ?_
                            refine lv_iload hx hb dX10_looks_398 (lv_at hl 0 rfl) ?_
                            refine lv_aload_n hx hb dX10_looks_400 rfl (lv_at hl 4 rfl) ?_
                            refine hk_geti hx hb hts hC_10 hown hW (gx.S hM) tt_10 67 (by decide) rfl kw_1210 ⟨rfl, rfl, rfl⟩ fjw279_x_67 dX10_looks_401 ?_
                            refine hb_icmp_le (zx := x_71.toInt) (zy := jw279_x_67.toInt) (tgt := 433) hx hb rfl rfl dX10_looks_404 (by decide) (fun c_72 => ?_) (fun c_72 => ?_)
                            · skip
                              refine lv_iconst (v := 0) hx hb dX10_looks_433 (by decide) ?_
                              refine hx_puti hx hb hts hC_10 hown hW hT (hx_S.rf (M := [(10, 70)])) (gx.S hM) tt_10 70 (by decide) rfl kw_1213 ⟨rfl, rfl, rfl⟩ rfl (x := (0 : Int32)) (by decide) rfl rfl rfl (List.mem_singleton.mpr rfl) dX10_looks_434 (fun H locs h_73 eh_73 hW hT hs => ?_)
                              replace fq_9 := (hs.o (gx.S hM) trivial rfl).2.trans fq_9
                              replace fx_14 := (hs.o (gx.S hM) trivial rfl).1.trans fx_14
                              replace fjw279_x_67 := (hs.o (gx.S hM) trivial rfl).1.trans fjw279_x_67
                              replace fq_16 := (hs.o (gx.S hM) trivial rfl).2.trans fq_16
                              replace fjw330_x_68 := (hs.o (gx.S hM) trivial rfl).1.trans fjw330_x_68
                              replace fjw354_x_69 := (hs.o (gx.S hM) trivial rfl).1.trans fjw354_x_69
                              replace fq_50 := (hs.o (gx.S hM) trivial rfl).2.trans fq_50
                              replace ex_45 := ex_45.trans (hs.a gq_9 rfl _).1.symm
                              replace ex_51 := ex_51.trans (hs.a gq_50 rfl _).1.symm
                              replace hM := hM.tr (hs.mono (by decide))
                              replace gq_9 := gq_9.S hs
                              replace gq_16 := gq_16.S hs
                              replace gq_50 := gq_50.S hs
                              have f_74 : h_73.2.1 x 70 = (0 : Int32) := by rw [eh_73]; exact hx_pi_at _ _ _ _
                              have zk_0 : (0 : Int32).toInt = 0 := by decide
                              exact join437 (0 : Int32) _ _ hL1 h_73 (by decide) (by decide)  ls hW hT hM f_74 fq_9 fx_14 fjw279_x_67 fq_16 fjw330_x_68 fjw354_x_69 gq_9 gq_16 (lv_sub hl [2, 3, 4, 5, 6, 7] rfl)
                            · skip
                              refine lv_iload hx hb dX10_looks_407 (lv_at hl 0 rfl) ?_
                              refine lv_aload_n hx hb dX10_looks_409 rfl (lv_at hl 4 rfl) ?_
                              refine hk_geti hx hb hts hC_10 hown hW (gx.S hM) tt_10 67 (by decide) rfl kw_1210 ⟨rfl, rfl, rfl⟩ fjw279_x_67 dX10_looks_410 ?_
                              refine lv_isub hx hb dX10_looks_413 ?_
                              have rg_75 := i32_r x_71
                              have rg_76 := i32_r jw279_x_67
                              refine lv_topi (fun x_77 ex_77 => ?_)
                              have zx_77 : x_77.toInt = x_71.toInt - jw279_x_67.toInt := by rw [ex_77]; exact i32_sub rfl rfl (by omega) (by omega)
                              refine lv_aload_n hx hb dX10_looks_414 rfl (lv_at hl 4 rfl) ?_
                              refine hk_getr hx hb hts hC_10 hown hW (gx.S hM) tt_10 54 (by decide) rfl kw_1197 ⟨rfl, rfl, rfl⟩ fq_50 dX10_looks_415 ?_
                              refine lv_iload_n hx hb dX10_looks_418 rfl (lv_at hl 5 rfl) ?_
                              refine hx_iald hx hb hW hT gq_50 tt_89 rfl ⟨by omega, by omega⟩ dX10_looks_419 (fun x_78 ex_78 lx_78 ux_78 => ?_)
                              obtain rfl : x_51 = x_78 := ex_51.trans ex_78.symm
                              refine lv_iadd hx hb dX10_looks_420 ?_
                              have rg_79 := i32_r x_77
                              have rg_80 := i32_r x_51
                              refine lv_topi (fun x_81 ex_81 => ?_)
                              refine lv_iconst (v := 1) hx hb dX10_looks_421 (by decide) ?_
                              refine lv_isub hx hb dX10_looks_422 ?_
                              have rg_82 := i32_r x_81
                              refine lv_topi (fun x_83 ex_83 => ?_)
                              refine lv_aload_n hx hb dX10_looks_423 rfl (lv_at hl 4 rfl) ?_
                              refine hk_getr hx hb hts hC_10 hown hW (gx.S hM) tt_10 54 (by decide) rfl kw_1197 ⟨rfl, rfl, rfl⟩ fq_50 dX10_looks_424 ?_
                              refine lv_iload_n hx hb dX10_looks_427 rfl (lv_at hl 5 rfl) ?_
                              refine hx_iald hx hb hW hT gq_50 tt_89 rfl ⟨by omega, by omega⟩ dX10_looks_428 (fun x_84 ex_84 lx_84 ux_84 => ?_)
                              obtain rfl : x_51 = x_84 := ex_51.trans ex_84.symm
                              refine lv_idiv hx hb dX10_looks_429 (hx_ne0 (by omega)) ?_
                              refine lv_topi (fun x_85 ex_85 => ?_)
                              refine lv_goto (tgt := 434) hx hb dX10_looks_430 (by decide) ?_
                              refine hx_puti hx hb hts hC_10 hown hW hT (hx_S.rf (M := [(10, 70)])) (gx.S hM) tt_10 70 (by decide) rfl kw_1213 ⟨rfl, rfl, rfl⟩ rfl (x := x_85) (i32_r _) rfl rfl rfl (List.mem_singleton.mpr rfl) dX10_looks_434 (fun H locs h_86 eh_86 hW hT hs => ?_)
                              replace fq_9 := (hs.o (gx.S hM) trivial rfl).2.trans fq_9
                              replace fx_14 := (hs.o (gx.S hM) trivial rfl).1.trans fx_14
                              replace fjw279_x_67 := (hs.o (gx.S hM) trivial rfl).1.trans fjw279_x_67
                              replace fq_16 := (hs.o (gx.S hM) trivial rfl).2.trans fq_16
                              replace fjw330_x_68 := (hs.o (gx.S hM) trivial rfl).1.trans fjw330_x_68
                              replace fjw354_x_69 := (hs.o (gx.S hM) trivial rfl).1.trans fjw354_x_69
                              replace fq_50 := (hs.o (gx.S hM) trivial rfl).2.trans fq_50
                              replace ex_45 := ex_45.trans (hs.a gq_9 rfl _).1.symm
                              replace ex_51 := ex_51.trans (hs.a gq_50 rfl _).1.symm
                              replace hM := hM.tr (hs.mono (by decide))
                              replace gq_9 := gq_9.S hs
                              replace gq_16 := gq_16.S hs
                              replace gq_50 := gq_50.S hs
                              have f_87 : h_86.2.1 x 70 = x_85 := by rw [eh_86]; exact hx_pi_at _ _ _ _
                              exact join437 x_85 _ _ hL1 h_86 (i32_r _).1 (i32_r _).2  ls hW hT hM f_87 fq_9 fx_14 fjw279_x_67 fq_16 fjw330_x_68 fjw354_x_69 gq_9 gq_16 (lv_sub hl [2, 3, 4, 5, 6, 7] rfl)
                        refine lv_aload_n hx hb dX10_looks_330 rfl (lv_at hl 2 rfl) ?_
                        refine lv_aload_n hx hb dX10_looks_331 rfl (lv_at hl 2 rfl) ?_
                        refine hk_geti hx hb hts hC_10 hown hW (gx.S hM) tt_10 67 (by decide) rfl kw_1210 ⟨rfl, rfl, rfl⟩ fjw279_x_67 dX10_looks_332 ?_
                        refine lv_iload hx hb dX10_looks_335 (lv_at hl 0 rfl) ?_
                        refine hb_icmp_le (zx := jw279_x_67.toInt) (zy := jv279_5.toInt) (tgt := 350) hx hb rfl rfl dX10_looks_337 (by decide) (fun c_88 => ?_) (fun c_88 => ?_)
                        · skip
                          refine lv_iconst (v := 0) hx hb dX10_looks_350 (by decide) ?_
                          refine hx_puti hx hb hts hC_10 hown hW hT (hx_S.rf (M := [(10, 69)])) (gx.S hM) tt_10 69 (by decide) rfl kw_1212 ⟨rfl, rfl, rfl⟩ rfl (x := (0 : Int32)) (by decide) rfl rfl rfl (List.mem_singleton.mpr rfl) dX10_looks_351 (fun H locs h_89 eh_89 hW hT hs => ?_)
                          replace f_8 := (hs.o (gx.S hM) trivial rfl).1.trans f_8
                          replace fq_9 := (hs.o (gx.S hM) trivial rfl).2.trans fq_9
                          replace fx_14 := (hs.o (gx.S hM) trivial rfl).1.trans fx_14
                          replace fjw279_x_67 := (hs.o (gx.S hM) trivial rfl).1.trans fjw279_x_67
                          replace fq_16 := (hs.o (gx.S hM) trivial rfl).2.trans fq_16
                          replace fjw330_x_68 := (hs.o (gx.S hM) trivial rfl).1.trans fjw330_x_68
                          replace hM := hM.tr (hs.mono (by decide))
                          replace gq_9 := gq_9.S hs
                          replace gq_16 := gq_16.S hs
                          have f_90 : h_89.2.1 x 69 = (0 : Int32) := by rw [eh_89]; exact hx_pi_at _ _ _ _
                          have zk_0 : (0 : Int32).toInt = 0 := by decide
                          exact join354 (0 : Int32) _ _ hL1 h_89 (by decide) (by decide)  ls hW hT hM f_90 f_8 fq_9 fx_14 fjw279_x_67 fq_16 fjw330_x_68 gq_9 gq_16 (lv_sub hl [0, 1, 2, 3, 4, 5] rfl)
                        · skip
                          refine lv_aload_n hx hb dX10_looks_340 rfl (lv_at hl 2 rfl) ?_
                          refine hk_geti hx hb hts hC_10 hown hW (gx.S hM) tt_10 67 (by decide) rfl kw_1210 ⟨rfl, rfl, rfl⟩ fjw279_x_67 dX10_looks_341 ?_
                          refine lv_iload hx hb dX10_looks_344 (lv_at hl 0 rfl) ?_
                          refine lv_isub hx hb dX10_looks_346 ?_
                          have rg_91 := i32_r jw279_x_67
                          have rg_92 := i32_r jv279_5
                          refine lv_topi (fun x_93 ex_93 => ?_)
                          have zx_93 : x_93.toInt = jw279_x_67.toInt - jv279_5.toInt := by rw [ex_93]; exact i32_sub rfl rfl (by omega) (by omega)
                          refine lv_goto (tgt := 351) hx hb dX10_looks_347 (by decide) ?_
                          refine hx_puti hx hb hts hC_10 hown hW hT (hx_S.rf (M := [(10, 69)])) (gx.S hM) tt_10 69 (by decide) rfl kw_1212 ⟨rfl, rfl, rfl⟩ rfl (x := x_93) (i32_r _) rfl rfl rfl (List.mem_singleton.mpr rfl) dX10_looks_351 (fun H locs h_94 eh_94 hW hT hs => ?_)
                          replace f_8 := (hs.o (gx.S hM) trivial rfl).1.trans f_8
                          replace fq_9 := (hs.o (gx.S hM) trivial rfl).2.trans fq_9
                          replace fx_14 := (hs.o (gx.S hM) trivial rfl).1.trans fx_14
                          replace fjw279_x_67 := (hs.o (gx.S hM) trivial rfl).1.trans fjw279_x_67
                          replace fq_16 := (hs.o (gx.S hM) trivial rfl).2.trans fq_16
                          replace fjw330_x_68 := (hs.o (gx.S hM) trivial rfl).1.trans fjw330_x_68
                          replace hM := hM.tr (hs.mono (by decide))
                          replace gq_9 := gq_9.S hs
                          replace gq_16 := gq_16.S hs
                          have f_95 : h_94.2.1 x 69 = x_93 := by rw [eh_94]; exact hx_pi_at _ _ _ _
                          exact join354 x_93 _ _ hL1 h_94 (i32_r _).1 (i32_r _).2  ls hW hT hM f_95 f_8 fq_9 fx_14 fjw279_x_67 fq_16 fjw330_x_68 gq_9 gq_16 (lv_sub hl [0, 1, 2, 3, 4, 5] rfl)
                      refine lv_aload_n hx hb dX10_looks_306 rfl (lv_at hl 2 rfl) ?_
                      refine lv_iload hx hb dX10_looks_307 (lv_at hl 0 rfl) ?_
                      refine lv_aload_n hx hb dX10_looks_309 rfl (lv_at hl 2 rfl) ?_
                      refine hk_geti hx hb hts hC_10 hown hW (gx.S hM) tt_10 67 (by decide) rfl kw_1210 ⟨rfl, rfl, rfl⟩ fjw279_x_67 dX10_looks_310 ?_
                      refine hb_icmp_le (zx := jv279_5.toInt) (zy := jw279_x_67.toInt) (tgt := 326) hx hb rfl rfl dX10_looks_313 (by decide) (fun c_96 => ?_) (fun c_96 => ?_)
                      · skip
                        refine lv_iconst (v := 0) hx hb dX10_looks_326 (by decide) ?_
                        refine hx_puti hx hb hts hC_10 hown hW hT (hx_S.rf (M := [(10, 68)])) (gx.S hM) tt_10 68 (by decide) rfl kw_1211 ⟨rfl, rfl, rfl⟩ rfl (x := (0 : Int32)) (by decide) rfl rfl rfl (List.mem_singleton.mpr rfl) dX10_looks_327 (fun H locs h_97 eh_97 hW hT hs => ?_)
                        replace f_6 := (hs.o (gx.S hM) trivial rfl).1.trans f_6
                        replace f_8 := (hs.o (gx.S hM) trivial rfl).1.trans f_8
                        replace fq_9 := (hs.o (gx.S hM) trivial rfl).2.trans fq_9
                        replace fx_14 := (hs.o (gx.S hM) trivial rfl).1.trans fx_14
                        replace fjw279_x_67 := (hs.o (gx.S hM) trivial rfl).1.trans fjw279_x_67
                        replace fq_16 := (hs.o (gx.S hM) trivial rfl).2.trans fq_16
                        replace ex_17 := ex_17.trans (hs.a gq_16 rfl _).1.symm
                        replace hM := hM.tr (hs.mono (by decide))
                        replace gq_9 := gq_9.S hs
                        replace gq_16 := gq_16.S hs
                        have f_98 : h_97.2.1 x 68 = (0 : Int32) := by rw [eh_97]; exact hx_pi_at _ _ _ _
                        have zk_0 : (0 : Int32).toInt = 0 := by decide
                        exact join330 (0 : Int32) _ _ hL1 h_97 (by decide) (by decide)  ls hW hT hM f_98 f_6 f_8 fq_9 fx_14 fjw279_x_67 fq_16 gq_9 gq_16 (lv_sub hl [0, 1, 2, 3, 4, 5] rfl)
                      · skip
                        refine lv_iload hx hb dX10_looks_316 (lv_at hl 0 rfl) ?_
                        refine lv_aload_n hx hb dX10_looks_318 rfl (lv_at hl 2 rfl) ?_
                        refine hk_geti hx hb hts hC_10 hown hW (gx.S hM) tt_10 67 (by decide) rfl kw_1210 ⟨rfl, rfl, rfl⟩ fjw279_x_67 dX10_looks_319 ?_
                        refine lv_isub hx hb dX10_looks_322 ?_
                        have rg_99 := i32_r jv279_5
                        have rg_100 := i32_r jw279_x_67
                        refine lv_topi (fun x_101 ex_101 => ?_)
                        have zx_101 : x_101.toInt = jv279_5.toInt - jw279_x_67.toInt := by rw [ex_101]; exact i32_sub rfl rfl (by omega) (by omega)
                        refine lv_goto (tgt := 327) hx hb dX10_looks_323 (by decide) ?_
                        refine hx_puti hx hb hts hC_10 hown hW hT (hx_S.rf (M := [(10, 68)])) (gx.S hM) tt_10 68 (by decide) rfl kw_1211 ⟨rfl, rfl, rfl⟩ rfl (x := x_101) ⟨by omega, by omega⟩ rfl rfl rfl (List.mem_singleton.mpr rfl) dX10_looks_327 (fun H locs h_102 eh_102 hW hT hs => ?_)
                        replace f_6 := (hs.o (gx.S hM) trivial rfl).1.trans f_6
                        replace f_8 := (hs.o (gx.S hM) trivial rfl).1.trans f_8
                        replace fq_9 := (hs.o (gx.S hM) trivial rfl).2.trans fq_9
                        replace fx_14 := (hs.o (gx.S hM) trivial rfl).1.trans fx_14
                        replace fjw279_x_67 := (hs.o (gx.S hM) trivial rfl).1.trans fjw279_x_67
                        replace fq_16 := (hs.o (gx.S hM) trivial rfl).2.trans fq_16
                        replace ex_17 := ex_17.trans (hs.a gq_16 rfl _).1.symm
                        replace hM := hM.tr (hs.mono (by decide))
                        replace gq_9 := gq_9.S hs
                        replace gq_16 := gq_16.S hs
                        have f_103 : h_102.2.1 x 68 = x_101 := by rw [eh_102]; exact hx_pi_at _ _ _ _
                        exact join330 x_101 _ _ hL1 h_102 (by omega) (by omega)  ls hW hT hM f_103 f_6 f_8 fq_9 fx_14 fjw279_x_67 fq_16 gq_9 gq_16 (lv_sub hl [0, 1, 2, 3, 4, 5] rfl)
                    · skip
                      refine lv_aload_n hx hb dX10_looks_289 rfl (lv_at hl 2 rfl) ?_
                      refine hk_getr hx hb hts hC_10 hown hW (gx.S hM) tt_10 50 (by decide) rfl kw_1193 ⟨rfl, rfl, rfl⟩ fq_16 dX10_looks_290 ?_
                      refine lv_iload_n hx hb dX10_looks_293 rfl (lv_at hl 3 rfl) ?_
                      refine hx_iald hx hb hW hT gq_16 tt_85 rfl ⟨by omega, by omega⟩ dX10_looks_294 (fun x_104 ex_104 lx_104 ux_104 => ?_)
                      obtain rfl : x_17 = x_104 := ex_17.trans ex_104.symm
                      refine lv_iload_n hx hb dX10_looks_295 rfl (lv_at hl 4 rfl) ?_
                      refine hb_icmp_gt (zx := x_17.toInt) (zy := i2.toInt) (tgt := 306) hx hb rfl rfl dX10_looks_296 (by decide) (fun c_105 => ?_) (fun c_105 => ?_)
                      · skip
                        have join330 : ∀ (jw330_x_68 : Int32) (H : Heap) (locs : List Loc) (hL1 : List Nat) (hl1 : hx_h), 0 ≤ jw330_x_68.toInt → jw330_x_68.toInt ≤ 610000 → ∀ (ls : Array Slot), hx_W T_tb (P_ty dA) (dC, dI) vwCl (hx_A L sz) s.heap hL1 hl1 s H locs → hx_T T_tb hL1 hl1 → hx_S T_tb [(10, 67), (10, 68), (10, 69), (10, 70), (10, 71)] L h hL1 hl1 → hl1.2.1 x 68 = jw330_x_68 → hl1.2.1 x 69 = (0 : Int32) → hl1.2.1 x 70 = (0 : Int32) → hl1.2.2 x 48 = some q_9 → hl1.2.1 x 59 = x_14 → hl1.2.1 x 67 = jw279_x_67 → hl1.2.2 x 50 = some q_16 → hx_g hL1 hl1 q_9 83 → hx_g hL1 hl1 q_16 85 → lv_has ls 9 [(5, .int jv279_5), (4, .int jv136_4), (0, .ref x), (1, .int i1), (2, .int i2), (3, .int i3)] → W p l e ({ frames := 1, cells := 0, slots := 0, locals := 22 }) s m ([.ref x, .int i1, .int i2, .int i3] : List Value).toArray below meth c H locs 0 0 (MQ below (va_Qv (fun (u : List Nat × hx_h) => (∃ (rs1 : Int32) (st1 : Int32) (pd1 : Int32), u.2.2.1 x 68 = rs1 ∧ u.2.2.1 x 71 = st1 ∧ u.2.2.1 x 67 = pd1 ∧ (4 ≤ st1.toInt ∧ st1.toInt ≤ 6 → 1 ≤ rs1.toInt)) ∧ hx_T T_tb u.1 u.2 ∧ hx_S T_tb [(10, 67), (10, 68), (10, 69), (10, 70), (10, 71)] L h u.1 u.2) (hx_E T_tb (P_ty dA) (dC, dI) vwCl (hx_A L sz)) (hx_A L sz)) ([.ref x, .int i1, .int i2, .int i3] : List Value).toArray s 0 0 (hx_A L sz)) (F0 m 330 ls []) := by
                          intro jw330_x_68 H locs hL1 hl1 bljw330_x_68 bujw330_x_68  ls hW hT hM fjw330_x_68 f_6 f_8 fq_9 fx_14 fjw279_x_67 fq_16 gq_9 gq_16 hl
                          have join354 : ∀ (jw354_x_69 : Int32) (H : Heap) (locs : List Loc) (hL1 : List Nat) (hl1 : hx_h), -2147483648 ≤ jw354_x_69.toInt → jw354_x_69.toInt ≤ 2147483647 → ∀ (ls : Array Slot), hx_W T_tb (P_ty dA) (dC, dI) vwCl (hx_A L sz) s.heap hL1 hl1 s H locs → hx_T T_tb hL1 hl1 → hx_S T_tb [(10, 67), (10, 68), (10, 69), (10, 70), (10, 71)] L h hL1 hl1 → hl1.2.1 x 69 = jw354_x_69 → hl1.2.1 x 70 = (0 : Int32) → hl1.2.2 x 48 = some q_9 → hl1.2.1 x 59 = x_14 → hl1.2.1 x 67 = jw279_x_67 → hl1.2.2 x 50 = some q_16 → hl1.2.1 x 68 = jw330_x_68 → hx_g hL1 hl1 q_9 83 → hx_g hL1 hl1 q_16 85 → lv_has ls 9 [(5, .int jv279_5), (4, .int jv136_4), (0, .ref x), (1, .int i1), (2, .int i2), (3, .int i3)] → W p l e ({ frames := 1, cells := 0, slots := 0, locals := 22 }) s m ([.ref x, .int i1, .int i2, .int i3] : List Value).toArray below meth c H locs 0 0 (MQ below (va_Qv (fun (u : List Nat × hx_h) => (∃ (rs1 : Int32) (st1 : Int32) (pd1 : Int32), u.2.2.1 x 68 = rs1 ∧ u.2.2.1 x 71 = st1 ∧ u.2.2.1 x 67 = pd1 ∧ (4 ≤ st1.toInt ∧ st1.toInt ≤ 6 → 1 ≤ rs1.toInt)) ∧ hx_T T_tb u.1 u.2 ∧ hx_S T_tb [(10, 67), (10, 68), (10, 69), (10, 70), (10, 71)] L h u.1 u.2) (hx_E T_tb (P_ty dA) (dC, dI) vwCl (hx_A L sz)) (hx_A L sz)) ([.ref x, .int i1, .int i2, .int i3] : List Value).toArray s 0 0 (hx_A L sz)) (F0 m 354 ls []) := by
                            intro jw354_x_69 H locs hL1 hl1 bljw354_x_69 bujw354_x_69  ls hW hT hM fjw354_x_69 f_8 fq_9 fx_14 fjw279_x_67 fq_16 fjw330_x_68 gq_9 gq_16 hl
                            have join437 : ∀ (jw437_x_70 : Int32) (H : Heap) (locs : List Loc) (hL1 : List Nat) (hl1 : hx_h), -2147483648 ≤ jw437_x_70.toInt → jw437_x_70.toInt ≤ 2147483647 → ∀ (ls : Array Slot), hx_W T_tb (P_ty dA) (dC, dI) vwCl (hx_A L sz) s.heap hL1 hl1 s H locs → hx_T T_tb hL1 hl1 → hx_S T_tb [(10, 67), (10, 68), (10, 69), (10, 70), (10, 71)] L h hL1 hl1 → hl1.2.1 x 70 = jw437_x_70 → hl1.2.2 x 48 = some q_9 → hl1.2.1 x 59 = x_14 → hl1.2.1 x 67 = jw279_x_67 → hl1.2.2 x 50 = some q_16 → hl1.2.1 x 68 = jw330_x_68 → hl1.2.1 x 69 = jw354_x_69 → hx_g hL1 hl1 q_9 83 → hx_g hL1 hl1 q_16 85 → lv_has ls 9 [(5, .int jv279_5), (4, .int jv136_4), (0, .ref x), (1, .int i1), (2, .int i2), (3, .int i3)] → W p l e ({ frames := 1, cells := 0, slots := 0, locals := 22 }) s m ([.ref x, .int i1, .int i2, .int i3] : List Value).toArray below meth c H locs 0 0 (MQ below (va_Qv (fun (u : List Nat × hx_h) => (∃ (rs1 : Int32) (st1 : Int32) (pd1 : Int32), u.2.2.1 x 68 = rs1 ∧ u.2.2.1 x 71 = st1 ∧ u.2.2.1 x 67 = pd1 ∧ (4 ≤ st1.toInt ∧ st1.toInt ≤ 6 → 1 ≤ rs1.toInt)) ∧ hx_T T_tb u.1 u.2 ∧ hx_S T_tb [(10, 67), (10, 68), (10, 69), (10, 70), (10, 71)] L h u.1 u.2) (hx_E T_tb (P_ty dA) (dC, dI) vwCl (hx_A L sz)) (hx_A L sz)) ([.ref x, .int i1, .int i2, .int i3] : List Value).toArray s 0 0 (hx_A L sz)) (F0 m 437 ls []) := by
                              intro jw437_x_70 H locs hL1 hl1 bljw437_x_70 bujw437_x_70  ls hW hT hM fjw437_x_70 fq_9 fx_14 fjw279_x_67 fq_16 fjw330_x_68 fjw354_x_69 gq_9 gq_16 hl
                              refine lv_aload_n hx hb dX10_looks_437 rfl (lv_at hl 2 rfl) ?_
                              refine lv_aload_n hx hb dX10_looks_438 rfl (lv_at hl 2 rfl) ?_
                              refine hx_getn hx hb hts hC_10 hown hW hT (gx.S hM) tt_10 44 (by decide) rfl kw_1187 ⟨rfl, rfl, rfl⟩ dX10_looks_439 (fun q_106 fq_106 gq_106 => ?_)
                              refine lv_iload_n hx hb dX10_looks_442 rfl (lv_at hl 3 rfl) ?_
                              refine hx_iald hx hb hW hT gq_106 tt_79 rfl ⟨by omega, by omega⟩ dX10_looks_443 (fun x_107 ex_107 lx_107 ux_107 => ?_)
                              refine lv_iconst (v := 4) hx hb dX10_looks_444 (by decide) ?_
                              have zc_4 : (4 : Int32).toInt = 4 := by decide
                              refine hx_goi (hx_runV (As := [.int x_107, .int (4 : Int32)]) (rest := []) ⟨hx, hb, hml, hown, hts⟩ hW (gx.S hM) tt_10 (T := TX10) (N := 98) rfl (t_X10_ruleOf l dC dI dA hL1 hl1 H.size x x_107 (4 : Int32) hT (gx.S hM) ⟨by omega, by omega⟩ (by decide)) (cwV 2 hts (hx_gV kw_1533 kw_1530 kw_1532 kw_66 kw_103) rfl rfl rfl (by decide +kernel) ⟨Nat.le_of_ble_eq_true rfl, Nat.le_of_ble_eq_true rfl⟩) rfl hl.1 rfl (Nat.le_of_ble_eq_true rfl) dX10_looks_445 ⟨Nat.le_of_ble_eq_true rfl, Nat.le_of_ble_eq_true rfl⟩) hW (fun r_110 L_108 h_109 H locs p_111 hW => ?_)
                              obtain ⟨hr_112, hT, hs⟩ := p_111
                              replace hT : hx_T T_tb L_108 h_109 := hT
                              replace hs : hx_S T_tb [] hL1 hl1 L_108 h_109 := hs
                              replace fq_9 := (hs.o (gx.S hM) trivial rfl).2.trans fq_9
                              replace fx_14 := (hs.o (gx.S hM) trivial rfl).1.trans fx_14
                              replace fjw279_x_67 := (hs.o (gx.S hM) trivial rfl).1.trans fjw279_x_67
                              replace fq_16 := (hs.o (gx.S hM) trivial rfl).2.trans fq_16
                              replace fjw330_x_68 := (hs.o (gx.S hM) trivial rfl).1.trans fjw330_x_68
                              replace fjw354_x_69 := (hs.o (gx.S hM) trivial rfl).1.trans fjw354_x_69
                              replace fjw437_x_70 := (hs.o (gx.S hM) trivial rfl).1.trans fjw437_x_70
                              replace fq_106 := (hs.o (gx.S hM) trivial rfl).2.trans fq_106
                              replace ex_107 := ex_107.trans (hs.a gq_106 rfl _).1.symm
                              replace hM := hM.tr (hs.mono (by decide))
                              replace gq_9 := gq_9.S hs
                              replace gq_16 := gq_16.S hs
                              replace gq_106 := gq_106.S hs
                              refine lv_istore (lv' := [(8, .int r_110), (5, .int jv279_5), (4, .int jv136_4), (0, .ref x), (1, .int i1), (2, .int i2), (3, .int i3)]) hx hb dX10_looks_448 hl (by decide) rfl (fun ls hl => ?_)
                              refine lv_aload_n hx hb dX10_looks_450 rfl (lv_at hl 3 rfl) ?_
                              refine lv_aload_n hx hb dX10_looks_451 rfl (lv_at hl 3 rfl) ?_
                              refine hk_geti hx hb hts hC_10 hown hW (gx.S hM) tt_10 68 (by decide) rfl kw_1211 ⟨rfl, rfl, rfl⟩ fjw330_x_68 dX10_looks_452 ?_
                              refine hb_if_ne (zx := jw330_x_68.toInt) (tgt := 463) hx hb rfl dX10_looks_455 (by decide) (fun c_113 => ?_) (fun c_113 => ?_)
                              · skip
                                refine lv_aload_n hx hb dX10_looks_463 rfl (lv_at hl 3 rfl) ?_
                                refine hk_geti hx hb hts hC_10 hown hW (gx.S hM) tt_10 70 (by decide) rfl kw_1213 ⟨rfl, rfl, rfl⟩ fjw437_x_70 dX10_looks_464 ?_
                                refine lv_iload hx hb dX10_looks_467 (lv_at hl 0 rfl) ?_
                                refine lv_aload_n hx hb dX10_looks_469 rfl (lv_at hl 3 rfl) ?_
                                refine lv_aload_n hx hb dX10_looks_470 rfl (lv_at hl 3 rfl) ?_
                                refine hk_getr hx hb hts hC_10 hown hW (gx.S hM) tt_10 44 (by decide) rfl kw_1187 ⟨rfl, rfl, rfl⟩ fq_106 dX10_looks_471 ?_
                                refine lv_iload_n hx hb dX10_looks_474 rfl (lv_at hl 4 rfl) ?_
                                refine hx_iald hx hb hW hT gq_106 tt_79 rfl ⟨by omega, by omega⟩ dX10_looks_475 (fun x_114 ex_114 lx_114 ux_114 => ?_)
                                obtain rfl : x_107 = x_114 := ex_107.trans ex_114.symm
                                refine lv_iconst (v := 5) hx hb dX10_looks_476 (by decide) ?_
                                have zc_5 : (5 : Int32).toInt = 5 := by decide
                                refine hx_goi (hx_runV (As := [.int x_107, .int (5 : Int32)]) (rest := [.int r_110, .int jw437_x_70, .ref x]) ⟨hx, hb, hml, hown, hts⟩ hW (gx.S hM) tt_10 (T := TX10) (N := 98) rfl (t_X10_ruleOf l dC dI dA L_108 h_109 H.size x x_107 (5 : Int32) hT (gx.S hM) ⟨by omega, by omega⟩ (by decide)) (cwV 2 hts (hx_gV kw_1533 kw_1530 kw_1532 kw_66 kw_103) rfl rfl rfl (by decide +kernel) ⟨Nat.le_of_ble_eq_true rfl, Nat.le_of_ble_eq_true rfl⟩) rfl hl.1 rfl (Nat.le_of_ble_eq_true rfl) dX10_looks_477 ⟨Nat.le_of_ble_eq_true rfl, Nat.le_of_ble_eq_true rfl⟩) hW (fun r_117 L_115 h_116 H locs p_118 hW => ?_)
                                obtain ⟨hr_119, hT, hs⟩ := p_118
                                replace hT : hx_T T_tb L_115 h_116 := hT
                                replace hs : hx_S T_tb [] L_108 h_109 L_115 h_116 := hs
                                replace fq_9 := (hs.o (gx.S hM) trivial rfl).2.trans fq_9
                                replace fx_14 := (hs.o (gx.S hM) trivial rfl).1.trans fx_14
                                replace fjw279_x_67 := (hs.o (gx.S hM) trivial rfl).1.trans fjw279_x_67
                                replace fq_16 := (hs.o (gx.S hM) trivial rfl).2.trans fq_16
                                replace fjw330_x_68 := (hs.o (gx.S hM) trivial rfl).1.trans fjw330_x_68
                                replace fjw354_x_69 := (hs.o (gx.S hM) trivial rfl).1.trans fjw354_x_69
                                replace fjw437_x_70 := (hs.o (gx.S hM) trivial rfl).1.trans fjw437_x_70
                                replace fq_106 := (hs.o (gx.S hM) trivial rfl).2.trans fq_106
                                replace ex_107 := ex_107.trans (hs.a gq_106 rfl _).1.symm
                                replace hM := hM.tr (hs.mono (by decide))
                                replace gq_9 := gq_9.S hs
                                replace gq_16 := gq_16.S hs
                                replace gq_106 := gq_106.S hs
                                refine lv_iadd hx hb dX10_looks_480 ?_
                                have rg_120 := i32_r r_110
                                have rg_121 := i32_r r_117
                                refine lv_topi (fun x_122 ex_122 => ?_)
                                have zx_122 : x_122.toInt = r_110.toInt + r_117.toInt := by rw [ex_122]; exact i32_add rfl rfl (by omega) (by omega)
                                refine hb_icmp_lt (zx := jw437_x_70.toInt) (zy := x_122.toInt) (tgt := 489) hx hb rfl rfl dX10_looks_481 (by decide) (fun c_123 => ?_) (fun c_123 => ?_)
                                · skip
                                  refine lv_aload_n hx hb dX10_looks_489 rfl (lv_at hl 3 rfl) ?_
                                  refine hk_geti hx hb hts hC_10 hown hW (gx.S hM) tt_10 70 (by decide) rfl kw_1213 ⟨rfl, rfl, rfl⟩ fjw437_x_70 dX10_looks_490 ?_
                                  refine lv_iload hx hb dX10_looks_493 (lv_at hl 0 rfl) ?_
                                  have jn_503 : ∀ (xj_124 : Int32) (ls : Array Slot), 4 ≤ xj_124.toInt → xj_124.toInt ≤ 5 → lv_has ls 9 [(8, .int r_110), (5, .int jv279_5), (4, .int jv136_4), (0, .ref x), (1, .int i1), (2, .int i2), (3, .int i3)] → W p l e ({ frames := 1, cells := 0, slots := 0, locals := 22 }) s m ([.ref x, .int i1, .int i2, .int i3] : List Value).toArray below meth c H locs 0 0 (MQ below (va_Qv (fun (u : List Nat × hx_h) => (∃ (rs1 : Int32) (st1 : Int32) (pd1 : Int32), u.2.2.1 x 68 = rs1 ∧ u.2.2.1 x 71 = st1 ∧ u.2.2.1 x 67 = pd1 ∧ (4 ≤ st1.toInt ∧ st1.toInt ≤ 6 → 1 ≤ rs1.toInt)) ∧ hx_T T_tb u.1 u.2 ∧ hx_S T_tb [(10, 67), (10, 68), (10, 69), (10, 70), (10, 71)] L h u.1 u.2) (hx_E T_tb (P_ty dA) (dC, dI) vwCl (hx_A L sz)) (hx_A L sz)) ([.ref x, .int i1, .int i2, .int i3] : List Value).toArray s 0 0 (hx_A L sz)) (F0 m 503 ls [.int xj_124, .ref x]) := by
                                    intro xj_124 ls blxj_124 buxj_124 hl
                                    refine hx_puti hx hb hts hC_10 hown hW hT (hx_S.rf (M := [(10, 71)])) (gx.S hM) tt_10 71 (by decide) rfl kw_1214 ⟨rfl, rfl, rfl⟩ rfl (x := xj_124) ⟨by omega, by omega⟩ rfl rfl rfl (List.mem_singleton.mpr rfl) dX10_looks_503 (fun H locs h_125 eh_125 hW hT hs => ?_)
                                    replace fq_9 := (hs.o (gx.S hM) trivial rfl).2.trans fq_9
                                    replace fx_14 := (hs.o (gx.S hM) trivial rfl).1.trans fx_14
                                    replace fjw279_x_67 := (hs.o (gx.S hM) trivial rfl).1.trans fjw279_x_67
                                    replace fq_16 := (hs.o (gx.S hM) trivial rfl).2.trans fq_16
                                    replace fjw330_x_68 := (hs.o (gx.S hM) trivial rfl).1.trans fjw330_x_68
                                    replace fjw354_x_69 := (hs.o (gx.S hM) trivial rfl).1.trans fjw354_x_69
                                    replace fjw437_x_70 := (hs.o (gx.S hM) trivial rfl).1.trans fjw437_x_70
                                    replace fq_106 := (hs.o (gx.S hM) trivial rfl).2.trans fq_106
                                    replace ex_107 := ex_107.trans (hs.a gq_106 rfl _).1.symm
                                    replace hM := hM.tr (hs.mono (by decide))
                                    replace gq_9 := gq_9.S hs
                                    replace gq_16 := gq_16.S hs
                                    replace gq_106 := gq_106.S hs
                                    have f_126 : h_125.2.1 x 71 = xj_124 := by rw [eh_125]; exact hx_pi_at _ _ _ _
                                    exact hx_retv hx hb hr hlk hW ⟨⟨jw330_x_68, xj_124, jw279_x_67, fjw330_x_68, f_126, fjw279_x_67, (by first | omega | (refine ⟨?_, ?_⟩ <;> omega))⟩, hT, hM⟩ dX10_looks_506
                                  refine hb_icmp_lt (zx := jw437_x_70.toInt) (zy := r_110.toInt) (tgt := 502) hx hb rfl rfl dX10_looks_495 (by decide) (fun c_127 => ?_) (fun c_127 => ?_)
                                  · skip
                                    refine lv_iconst (v := 4) hx hb dX10_looks_502 (by decide) ?_
                                    exact jn_503 (4 : Int32) ls (by decide) (by decide) hl
                                  · skip
                                    refine lv_iconst (v := 5) hx hb dX10_looks_498 (by decide) ?_
                                    refine lv_goto (tgt := 503) hx hb dX10_looks_499 (by decide) ?_
                                    exact jn_503 (5 : Int32) ls (by decide) (by decide) hl
                                · skip
                                  refine lv_bipush (v := 6) hx hb dX10_looks_484 (by decide) ?_
                                  refine lv_goto (tgt := 503) hx hb dX10_looks_486 (by decide) ?_
                                  refine hx_puti hx hb hts hC_10 hown hW hT (hx_S.rf (M := [(10, 71)])) (gx.S hM) tt_10 71 (by decide) rfl kw_1214 ⟨rfl, rfl, rfl⟩ rfl (x := (6 : Int32)) (by decide) rfl rfl rfl (List.mem_singleton.mpr rfl) dX10_looks_503 (fun H locs h_128 eh_128 hW hT hs => ?_)
                                  replace fq_9 := (hs.o (gx.S hM) trivial rfl).2.trans fq_9
                                  replace fx_14 := (hs.o (gx.S hM) trivial rfl).1.trans fx_14
                                  replace fjw279_x_67 := (hs.o (gx.S hM) trivial rfl).1.trans fjw279_x_67
                                  replace fq_16 := (hs.o (gx.S hM) trivial rfl).2.trans fq_16
                                  replace fjw330_x_68 := (hs.o (gx.S hM) trivial rfl).1.trans fjw330_x_68
                                  replace fjw354_x_69 := (hs.o (gx.S hM) trivial rfl).1.trans fjw354_x_69
                                  replace fjw437_x_70 := (hs.o (gx.S hM) trivial rfl).1.trans fjw437_x_70
                                  replace fq_106 := (hs.o (gx.S hM) trivial rfl).2.trans fq_106
                                  replace ex_107 := ex_107.trans (hs.a gq_106 rfl _).1.symm
                                  replace hM := hM.tr (hs.mono (by decide))
                                  replace gq_9 := gq_9.S hs
                                  replace gq_16 := gq_16.S hs
                                  replace gq_106 := gq_106.S hs
                                  have f_129 : h_128.2.1 x 71 = (6 : Int32) := by rw [eh_128]; exact hx_pi_at _ _ _ _
                                  have zo_6 : (6 : Int32).toInt = 6 := by decide
                                  exact hx_retv hx hb hr hlk hW ⟨⟨jw330_x_68, (6 : Int32), jw279_x_67, fjw330_x_68, f_129, fjw279_x_67, (by first | omega | (refine ⟨?_, ?_⟩ <;> omega))⟩, hT, hM⟩ dX10_looks_506
                              · skip
                                refine lv_bipush (v := 7) hx hb dX10_looks_458 (by decide) ?_
                                refine lv_goto (tgt := 503) hx hb dX10_looks_460 (by decide) ?_
                                refine hx_puti hx hb hts hC_10 hown hW hT (hx_S.rf (M := [(10, 71)])) (gx.S hM) tt_10 71 (by decide) rfl kw_1214 ⟨rfl, rfl, rfl⟩ rfl (x := (7 : Int32)) (by decide) rfl rfl rfl (List.mem_singleton.mpr rfl) dX10_looks_503 (fun H locs h_130 eh_130 hW hT hs => ?_)
                                replace fq_9 := (hs.o (gx.S hM) trivial rfl).2.trans fq_9
                                replace fx_14 := (hs.o (gx.S hM) trivial rfl).1.trans fx_14
                                replace fjw279_x_67 := (hs.o (gx.S hM) trivial rfl).1.trans fjw279_x_67
                                replace fq_16 := (hs.o (gx.S hM) trivial rfl).2.trans fq_16
                                replace fjw330_x_68 := (hs.o (gx.S hM) trivial rfl).1.trans fjw330_x_68
                                replace fjw354_x_69 := (hs.o (gx.S hM) trivial rfl).1.trans fjw354_x_69
                                replace fjw437_x_70 := (hs.o (gx.S hM) trivial rfl).1.trans fjw437_x_70
                                replace fq_106 := (hs.o (gx.S hM) trivial rfl).2.trans fq_106
                                replace ex_107 := ex_107.trans (hs.a gq_106 rfl _).1.symm
                                replace hM := hM.tr (hs.mono (by decide))
                                replace gq_9 := gq_9.S hs
                                replace gq_16 := gq_16.S hs
                                replace gq_106 := gq_106.S hs
                                have f_131 : h_130.2.1 x 71 = (7 : Int32) := by rw [eh_130]; exact hx_pi_at _ _ _ _
                                have zo_7 : (7 : Int32).toInt = 7 := by decide
                                exact hx_retv hx hb hr hlk hW ⟨⟨jw330_x_68, (7 : Int32), jw279_x_67, fjw330_x_68, f_131, fjw279_x_67, (by first | omega | (refine ⟨?_, ?_⟩ <;> omega))⟩, hT, hM⟩ dX10_looks_506
                            refine lv_iload_n hx hb dX10_looks_354 rfl (lv_at hl 4 rfl) ?_
                            refine lv_aload_n hx hb dX10_looks_355 rfl (lv_at hl 2 rfl) ?_
                            refine hk_getr hx hb hts hC_10 hown hW (gx.S hM) tt_10 48 (by decide) rfl kw_1191 ⟨rfl, rfl, rfl⟩ fq_9 dX10_looks_356 ?_
                            refine lv_iload_n hx hb dX10_looks_359 rfl (lv_at hl 3 rfl) ?_
                            refine hx_iald hx hb hW hT gq_9 tt_83 rfl ⟨by omega, by omega⟩ dX10_looks_360 (fun x_132 ex_132 lx_132 ux_132 => ?_)
                            refine lv_isub hx hb dX10_looks_361 ?_
                            have rg_133 := i32_r i2
                            have rg_134 := i32_r x_132
                            refine lv_topi (fun x_135 ex_135 => ?_)
                            refine lv_bipush (v := 7) hx hb dX10_looks_362 (by decide) ?_
                            refine lv_idiv hx hb dX10_looks_364 (by decide) ?_
                            refine lv_topi (fun x_136 ex_136 => ?_)
                            have zx_136 : -1073741824 ≤ x_136.toInt ∧ x_136.toInt ≤ 1073741824 := by rw [ex_136]; exact hx_divb (by decide)
                            refine lv_istore (lv' := [(6, .int x_136), (5, .int jv279_5), (4, .int jv136_4), (0, .ref x), (1, .int i1), (2, .int i2), (3, .int i3)]) hx hb dX10_looks_365 hl (by decide) rfl (fun ls hl => ?_)
                            refine lv_aload_n hx hb dX10_looks_367 rfl (lv_at hl 3 rfl) ?_
                            refine hx_getn hx hb hts hC_10 hown hW hT (gx.S hM) tt_10 54 (by decide) rfl kw_1197 ⟨rfl, rfl, rfl⟩ dX10_looks_368 (fun q_137 fq_137 gq_137 => ?_)
                            refine lv_iload_n hx hb dX10_looks_371 rfl (lv_at hl 4 rfl) ?_
                            refine hx_iald hx hb hW hT gq_137 tt_89 rfl ⟨by omega, by omega⟩ dX10_looks_372 (fun x_138 ex_138 lx_138 ux_138 => ?_)
                            refine lv_iload hx hb dX10_looks_373 (lv_at hl 0 rfl) ?_
                            refine lv_imul hx hb dX10_looks_375 ?_
                            refine lv_topi (fun x_139 ex_139 => ?_)
                            have mx_139 : x_138.toInt = 0 → x_139.toInt = 0 := fun z => by rw [ex_139]; exact hx_mul0 z
                            refine lv_iload hx hb dX10_looks_376 (lv_at hl 1 rfl) ?_
                            refine hb_icmp_ge (zx := x_139.toInt) (zy := jv279_5.toInt) (tgt := 393) hx hb rfl rfl dX10_looks_378 (by decide) (fun c_140 => ?_) (fun c_140 => ?_)
                            · skip
                              refine lv_iload hx hb dX10_looks_393 (lv_at hl 1 rfl) ?_
                              refine lv_istore (lv' := [(7, .int jv279_5), (6, .int x_136), (5, .int jv279_5), (4, .int jv136_4), (0, .ref x), (1, .int i1), (2, .int i2), (3, .int i3)]) hx hb dX10_looks_395 hl (by decide) rfl (fun ls hl => ?_)
                              refine lv_aload_n hx hb dX10_looks_397 rfl (lv_at hl 4 rfl) ?_
                              refine lv_iload hx hb dX10_looks_398 (lv_at hl 0 rfl) ?_
                              refine lv_aload_n hx hb dX10_looks_400 rfl (lv_at hl 4 rfl) ?_
                              refine hk_geti hx hb hts hC_10 hown hW (gx.S hM) tt_10 67 (by decide) rfl kw_1210 ⟨rfl, rfl, rfl⟩ fjw279_x_67 dX10_looks_401 ?_
                              refine hb_icmp_le (zx := jv279_5.toInt) (zy := jw279_x_67.toInt) (tgt := 433) hx hb rfl rfl dX10_looks_404 (by decide) (fun c_141 => ?_) (fun c_141 => ?_)
                              · skip
                                refine lv_iconst (v := 0) hx hb dX10_looks_433 (by decide) ?_
                                refine hx_puti hx hb hts hC_10 hown hW hT (hx_S.rf (M := [(10, 70)])) (gx.S hM) tt_10 70 (by decide) rfl kw_1213 ⟨rfl, rfl, rfl⟩ rfl (x := (0 : Int32)) (by decide) rfl rfl rfl (List.mem_singleton.mpr rfl) dX10_looks_434 (fun H locs h_142 eh_142 hW hT hs => ?_)
                                replace fq_9 := (hs.o (gx.S hM) trivial rfl).2.trans fq_9
                                replace fx_14 := (hs.o (gx.S hM) trivial rfl).1.trans fx_14
                                replace fjw279_x_67 := (hs.o (gx.S hM) trivial rfl).1.trans fjw279_x_67
                                replace fq_16 := (hs.o (gx.S hM) trivial rfl).2.trans fq_16
                                replace fjw330_x_68 := (hs.o (gx.S hM) trivial rfl).1.trans fjw330_x_68
                                replace fjw354_x_69 := (hs.o (gx.S hM) trivial rfl).1.trans fjw354_x_69
                                replace fq_137 := (hs.o (gx.S hM) trivial rfl).2.trans fq_137
                                replace ex_132 := ex_132.trans (hs.a gq_9 rfl _).1.symm
                                replace ex_138 := ex_138.trans (hs.a gq_137 rfl _).1.symm
                                replace hM := hM.tr (hs.mono (by decide))
                                replace gq_9 := gq_9.S hs
                                replace gq_16 := gq_16.S hs
                                replace gq_137 := gq_137.S hs
                                have f_143 : h_142.2.1 x 70 = (0 : Int32) := by rw [eh_142]; exact hx_pi_at _ _ _ _
                                have zk_0 : (0 : Int32).toInt = 0 := by decide
                                exact join437 (0 : Int32) _ _ hL1 h_142 (by decide) (by decide)  ls hW hT hM f_143 fq_9 fx_14 fjw279_x_67 fq_16 fjw330_x_68 fjw354_x_69 gq_9 gq_16 (lv_sub hl [2, 3, 4, 5, 6, 7] rfl)
                              · skip
                                refine lv_iload hx hb dX10_looks_407 (lv_at hl 0 rfl) ?_
                                refine lv_aload_n hx hb dX10_looks_409 rfl (lv_at hl 4 rfl) ?_
                                refine hk_geti hx hb hts hC_10 hown hW (gx.S hM) tt_10 67 (by decide) rfl kw_1210 ⟨rfl, rfl, rfl⟩ fjw279_x_67 dX10_looks_410 ?_
                                refine lv_isub hx hb dX10_looks_413 ?_
                                have rg_144 := i32_r jv279_5
                                have rg_145 := i32_r jw279_x_67
                                refine lv_topi (fun x_146 ex_146 => ?_)
                                have zx_146 : x_146.toInt = jv279_5.toInt - jw279_x_67.toInt := by rw [ex_146]; exact i32_sub rfl rfl (by omega) (by omega)
                                refine lv_aload_n hx hb dX10_looks_414 rfl (lv_at hl 4 rfl) ?_
                                refine hk_getr hx hb hts hC_10 hown hW (gx.S hM) tt_10 54 (by decide) rfl kw_1197 ⟨rfl, rfl, rfl⟩ fq_137 dX10_looks_415 ?_
                                refine lv_iload_n hx hb dX10_looks_418 rfl (lv_at hl 5 rfl) ?_
                                refine hx_iald hx hb hW hT gq_137 tt_89 rfl ⟨by omega, by omega⟩ dX10_looks_419 (fun x_147 ex_147 lx_147 ux_147 => ?_)
                                obtain rfl : x_138 = x_147 := ex_138.trans ex_147.symm
                                refine lv_iadd hx hb dX10_looks_420 ?_
                                have rg_148 := i32_r x_146
                                have rg_149 := i32_r x_138
                                refine lv_topi (fun x_150 ex_150 => ?_)
                                refine lv_iconst (v := 1) hx hb dX10_looks_421 (by decide) ?_
                                refine lv_isub hx hb dX10_looks_422 ?_
                                have rg_151 := i32_r x_150
                                refine lv_topi (fun x_152 ex_152 => ?_)
                                refine lv_aload_n hx hb dX10_looks_423 rfl (lv_at hl 4 rfl) ?_
                                refine hk_getr hx hb hts hC_10 hown hW (gx.S hM) tt_10 54 (by decide) rfl kw_1197 ⟨rfl, rfl, rfl⟩ fq_137 dX10_looks_424 ?_
                                refine lv_iload_n hx hb dX10_looks_427 rfl (lv_at hl 5 rfl) ?_
                                refine hx_iald hx hb hW hT gq_137 tt_89 rfl ⟨by omega, by omega⟩ dX10_looks_428 (fun x_153 ex_153 lx_153 ux_153 => ?_)
                                obtain rfl : x_138 = x_153 := ex_138.trans ex_153.symm
                                refine lv_idiv hx hb dX10_looks_429 (hx_ne0 (by omega)) ?_
                                refine lv_topi (fun x_154 ex_154 => ?_)
                                refine lv_goto (tgt := 434) hx hb dX10_looks_430 (by decide) ?_
                                refine hx_puti hx hb hts hC_10 hown hW hT (hx_S.rf (M := [(10, 70)])) (gx.S hM) tt_10 70 (by decide) rfl kw_1213 ⟨rfl, rfl, rfl⟩ rfl (x := x_154) (i32_r _) rfl rfl rfl (List.mem_singleton.mpr rfl) dX10_looks_434 (fun H locs h_155 eh_155 hW hT hs => ?_)
                                replace fq_9 := (hs.o (gx.S hM) trivial rfl).2.trans fq_9
                                replace fx_14 := (hs.o (gx.S hM) trivial rfl).1.trans fx_14
                                replace fjw279_x_67 := (hs.o (gx.S hM) trivial rfl).1.trans fjw279_x_67
                                replace fq_16 := (hs.o (gx.S hM) trivial rfl).2.trans fq_16
                                replace fjw330_x_68 := (hs.o (gx.S hM) trivial rfl).1.trans fjw330_x_68
                                replace fjw354_x_69 := (hs.o (gx.S hM) trivial rfl).1.trans fjw354_x_69
                                replace fq_137 := (hs.o (gx.S hM) trivial rfl).2.trans fq_137
                                replace ex_132 := ex_132.trans (hs.a gq_9 rfl _).1.symm
                                replace ex_138 := ex_138.trans (hs.a gq_137 rfl _).1.symm
                                replace hM := hM.tr (hs.mono (by decide))
                                replace gq_9 := gq_9.S hs
                                replace gq_16 := gq_16.S hs
                                replace gq_137 := gq_137.S hs
                                have f_156 : h_155.2.1 x 70 = x_154 := by rw [eh_155]; exact hx_pi_at _ _ _ _
                                exact join437 x_154 _ _ hL1 h_155 (i32_r _).1 (i32_r _).2  ls hW hT hM f_156 fq_9 fx_14 fjw279_x_67 fq_16 fjw330_x_68 fjw354_x_69 gq_9 gq_16 (lv_sub hl [2, 3, 4, 5, 6, 7] rfl)
                            · skip
                              refine lv_aload_n hx hb dX10_looks_381 rfl (lv_at hl 3 rfl) ?_
                              refine hk_getr hx hb hts hC_10 hown hW (gx.S hM) tt_10 54 (by decide) rfl kw_1197 ⟨rfl, rfl, rfl⟩ fq_137 dX10_looks_382 ?_
                              refine lv_iload_n hx hb dX10_looks_385 rfl (lv_at hl 4 rfl) ?_
                              refine hx_iald hx hb hW hT gq_137 tt_89 rfl ⟨by omega, by omega⟩ dX10_looks_386 (fun x_157 ex_157 lx_157 ux_157 => ?_)
                              obtain rfl : x_138 = x_157 := ex_138.trans ex_157.symm
                              refine lv_iload hx hb dX10_looks_387 (lv_at hl 0 rfl) ?_
                              refine lv_imul hx hb dX10_looks_389 ?_
                              refine lv_topi (fun x_158 ex_158 => ?_)
                              have mx_158 : x_138.toInt = 0 → x_158.toInt = 0 := fun z => by rw [ex_158]; exact hx_mul0 z
                              refine lv_goto (tgt := 395) hx hb dX10_looks_390 (by decide) ?_
                              refine lv_istore (lv' := [(7, .int x_158), (6, .int x_136), (5, .int jv279_5), (4, .int jv136_4), (0, .ref x), (1, .int i1), (2, .int i2), (3, .int i3)]) hx hb dX10_looks_395 hl (by decide) rfl (fun ls hl => ?_)
                              refine lv_aload_n hx hb dX10_looks_397 rfl (lv_at hl 4 rfl) ?_
                              refine lv_iload hx hb dX10_looks_398 (lv_at hl 0 rfl) ?_
                              refine lv_aload_n hx hb dX10_looks_400 rfl (lv_at hl 4 rfl) ?_
                              refine hk_geti hx hb hts hC_10 hown hW (gx.S hM) tt_10 67 (by decide) rfl kw_1210 ⟨rfl, rfl, rfl⟩ fjw279_x_67 dX10_looks_401 ?_
                              refine hb_icmp_le (zx := x_158.toInt) (zy := jw279_x_67.toInt) (tgt := 433) hx hb rfl rfl dX10_looks_404 (by decide) (fun c_159 => ?_) (fun c_159 => ?_)
                              · skip
                                refine lv_iconst (v := 0) hx hb dX10_looks_433 (by decide) ?_
                                refine hx_puti hx hb hts hC_10 hown hW hT (hx_S.rf (M := [(10, 70)])) (gx.S hM) tt_10 70 (by decide) rfl kw_1213 ⟨rfl, rfl, rfl⟩ rfl (x := (0 : Int32)) (by decide) rfl rfl rfl (List.mem_singleton.mpr rfl) dX10_looks_434 (fun H locs h_160 eh_160 hW hT hs => ?_)
                                replace fq_9 := (hs.o (gx.S hM) trivial rfl).2.trans fq_9
                                replace fx_14 := (hs.o (gx.S hM) trivial rfl).1.trans fx_14
                                replace fjw279_x_67 := (hs.o (gx.S hM) trivial rfl).1.trans fjw279_x_67
                                replace fq_16 := (hs.o (gx.S hM) trivial rfl).2.trans fq_16
                                replace fjw330_x_68 := (hs.o (gx.S hM) trivial rfl).1.trans fjw330_x_68
                                replace fjw354_x_69 := (hs.o (gx.S hM) trivial rfl).1.trans fjw354_x_69
                                replace fq_137 := (hs.o (gx.S hM) trivial rfl).2.trans fq_137
                                replace ex_132 := ex_132.trans (hs.a gq_9 rfl _).1.symm
                                replace ex_138 := ex_138.trans (hs.a gq_137 rfl _).1.symm
                                replace hM := hM.tr (hs.mono (by decide))
                                replace gq_9 := gq_9.S hs
                                replace gq_16 := gq_16.S hs
                                replace gq_137 := gq_137.S hs
                                have f_161 : h_160.2.1 x 70 = (0 : Int32) := by rw [eh_160]; exact hx_pi_at _ _ _ _
                                have zk_0 : (0 : Int32).toInt = 0 := by decide
                                exact join437 (0 : Int32) _ _ hL1 h_160 (by decide) (by decide)  ls hW hT hM f_161 fq_9 fx_14 fjw279_x_67 fq_16 fjw330_x_68 fjw354_x_69 gq_9 gq_16 (lv_sub hl [2, 3, 4, 5, 6, 7] rfl)
                              · skip
                                refine lv_iload hx hb dX10_looks_407 (lv_at hl 0 rfl) ?_
                                refine lv_aload_n hx hb dX10_looks_409 rfl (lv_at hl 4 rfl) ?_
                                refine hk_geti hx hb hts hC_10 hown hW (gx.S hM) tt_10 67 (by decide) rfl kw_1210 ⟨rfl, rfl, rfl⟩ fjw279_x_67 dX10_looks_410 ?_
                                refine lv_isub hx hb dX10_looks_413 ?_
                                have rg_162 := i32_r x_158
                                have rg_163 := i32_r jw279_x_67
                                refine lv_topi (fun x_164 ex_164 => ?_)
                                have zx_164 : x_164.toInt = x_158.toInt - jw279_x_67.toInt := by rw [ex_164]; exact i32_sub rfl rfl (by omega) (by omega)
                                refine lv_aload_n hx hb dX10_looks_414 rfl (lv_at hl 4 rfl) ?_
                                refine hk_getr hx hb hts hC_10 hown hW (gx.S hM) tt_10 54 (by decide) rfl kw_1197 ⟨rfl, rfl, rfl⟩ fq_137 dX10_looks_415 ?_
                                refine lv_iload_n hx hb dX10_looks_418 rfl (lv_at hl 5 rfl) ?_
                                refine hx_iald hx hb hW hT gq_137 tt_89 rfl ⟨by omega, by omega⟩ dX10_looks_419 (fun x_165 ex_165 lx_165 ux_165 => ?_)
                                obtain rfl : x_138 = x_165 := ex_138.trans ex_165.symm
                                refine lv_iadd hx hb dX10_looks_420 ?_
                                have rg_166 := i32_r x_164
                                have rg_167 := i32_r x_138
                                refine lv_topi (fun x_168 ex_168 => ?_)
                                refine lv_iconst (v := 1) hx hb dX10_looks_421 (by decide) ?_
                                refine lv_isub hx hb dX10_looks_422 ?_
                                have rg_169 := i32_r x_168
                                refine lv_topi (fun x_170 ex_170 => ?_)
                                refine lv_aload_n hx hb dX10_looks_423 rfl (lv_at hl 4 rfl) ?_
                                refine hk_getr hx hb hts hC_10 hown hW (gx.S hM) tt_10 54 (by decide) rfl kw_1197 ⟨rfl, rfl, rfl⟩ fq_137 dX10_looks_424 ?_
                                refine lv_iload_n hx hb dX10_looks_427 rfl (lv_at hl 5 rfl) ?_
                                refine hx_iald hx hb hW hT gq_137 tt_89 rfl ⟨by omega, by omega⟩ dX10_looks_428 (fun x_171 ex_171 lx_171 ux_171 => ?_)
                                obtain rfl : x_138 = x_171 := ex_138.trans ex_171.symm
                                refine lv_idiv hx hb dX10_looks_429 (hx_ne0 (by omega)) ?_
                                refine lv_topi (fun x_172 ex_172 => ?_)
                                refine lv_goto (tgt := 434) hx hb dX10_looks_430 (by decide) ?_
                                refine hx_puti hx hb hts hC_10 hown hW hT (hx_S.rf (M := [(10, 70)])) (gx.S hM) tt_10 70 (by decide) rfl kw_1213 ⟨rfl, rfl, rfl⟩ rfl (x := x_172) (i32_r _) rfl rfl rfl (List.mem_singleton.mpr rfl) dX10_looks_434 (fun H locs h_173 eh_173 hW hT hs => ?_)
                                replace fq_9 := (hs.o (gx.S hM) trivial rfl).2.trans fq_9
                                replace fx_14 := (hs.o (gx.S hM) trivial rfl).1.trans fx_14
                                replace fjw279_x_67 := (hs.o (gx.S hM) trivial rfl).1.trans fjw279_x_67
                                replace fq_16 := (hs.o (gx.S hM) trivial rfl).2.trans fq_16
                                replace fjw330_x_68 := (hs.o (gx.S hM) trivial rfl).1.trans fjw330_x_68
                                replace fjw354_x_69 := (hs.o (gx.S hM) trivial rfl).1.trans fjw354_x_69
                                replace fq_137 := (hs.o (gx.S hM) trivial rfl).2.trans fq_137
                                replace ex_132 := ex_132.trans (hs.a gq_9 rfl _).1.symm
                                replace ex_138 := ex_138.trans (hs.a gq_137 rfl _).1.symm
                                replace hM := hM.tr (hs.mono (by decide))
                                replace gq_9 := gq_9.S hs
                                replace gq_16 := gq_16.S hs
                                replace gq_137 := gq_137.S hs
                                have f_174 : h_173.2.1 x 70 = x_172 := by rw [eh_173]; exact hx_pi_at _ _ _ _
                                exact join437 x_172 _ _ hL1 h_173 (i32_r _).1 (i32_r _).2  ls hW hT hM f_174 fq_9 fx_14 fjw279_x_67 fq_16 fjw330_x_68 fjw354_x_69 gq_9 gq_16 (lv_sub hl [2, 3, 4, 5, 6, 7] rfl)
                          refine lv_aload_n hx hb dX10_looks_330 rfl (lv_at hl 2 rfl) ?_
                          refine lv_aload_n hx hb dX10_looks_331 rfl (lv_at hl 2 rfl) ?_
                          refine hk_geti hx hb hts hC_10 hown hW (gx.S hM) tt_10 67 (by decide) rfl kw_1210 ⟨rfl, rfl, rfl⟩ fjw279_x_67 dX10_looks_332 ?_
                          refine lv_iload hx hb dX10_looks_335 (lv_at hl 0 rfl) ?_
                          refine hb_icmp_le (zx := jw279_x_67.toInt) (zy := jv279_5.toInt) (tgt := 350) hx hb rfl rfl dX10_looks_337 (by decide) (fun c_175 => ?_) (fun c_175 => ?_)
                          · skip
                            refine lv_iconst (v := 0) hx hb dX10_looks_350 (by decide) ?_
                            refine hx_puti hx hb hts hC_10 hown hW hT (hx_S.rf (M := [(10, 69)])) (gx.S hM) tt_10 69 (by decide) rfl kw_1212 ⟨rfl, rfl, rfl⟩ rfl (x := (0 : Int32)) (by decide) rfl rfl rfl (List.mem_singleton.mpr rfl) dX10_looks_351 (fun H locs h_176 eh_176 hW hT hs => ?_)
                            replace f_8 := (hs.o (gx.S hM) trivial rfl).1.trans f_8
                            replace fq_9 := (hs.o (gx.S hM) trivial rfl).2.trans fq_9
                            replace fx_14 := (hs.o (gx.S hM) trivial rfl).1.trans fx_14
                            replace fjw279_x_67 := (hs.o (gx.S hM) trivial rfl).1.trans fjw279_x_67
                            replace fq_16 := (hs.o (gx.S hM) trivial rfl).2.trans fq_16
                            replace fjw330_x_68 := (hs.o (gx.S hM) trivial rfl).1.trans fjw330_x_68
                            replace hM := hM.tr (hs.mono (by decide))
                            replace gq_9 := gq_9.S hs
                            replace gq_16 := gq_16.S hs
                            have f_177 : h_176.2.1 x 69 = (0 : Int32) := by rw [eh_176]; exact hx_pi_at _ _ _ _
                            have zk_0 : (0 : Int32).toInt = 0 := by decide
                            exact join354 (0 : Int32) _ _ hL1 h_176 (by decide) (by decide)  ls hW hT hM f_177 f_8 fq_9 fx_14 fjw279_x_67 fq_16 fjw330_x_68 gq_9 gq_16 (lv_sub hl [0, 1, 2, 3, 4, 5] rfl)
                          · skip
                            refine lv_aload_n hx hb dX10_looks_340 rfl (lv_at hl 2 rfl) ?_
                            refine hk_geti hx hb hts hC_10 hown hW (gx.S hM) tt_10 67 (by decide) rfl kw_1210 ⟨rfl, rfl, rfl⟩ fjw279_x_67 dX10_looks_341 ?_
                            refine lv_iload hx hb dX10_looks_344 (lv_at hl 0 rfl) ?_
                            refine lv_isub hx hb dX10_looks_346 ?_
                            have rg_178 := i32_r jw279_x_67
                            have rg_179 := i32_r jv279_5
                            refine lv_topi (fun x_180 ex_180 => ?_)
                            have zx_180 : x_180.toInt = jw279_x_67.toInt - jv279_5.toInt := by rw [ex_180]; exact i32_sub rfl rfl (by omega) (by omega)
                            refine lv_goto (tgt := 351) hx hb dX10_looks_347 (by decide) ?_
                            refine hx_puti hx hb hts hC_10 hown hW hT (hx_S.rf (M := [(10, 69)])) (gx.S hM) tt_10 69 (by decide) rfl kw_1212 ⟨rfl, rfl, rfl⟩ rfl (x := x_180) (i32_r _) rfl rfl rfl (List.mem_singleton.mpr rfl) dX10_looks_351 (fun H locs h_181 eh_181 hW hT hs => ?_)
                            replace f_8 := (hs.o (gx.S hM) trivial rfl).1.trans f_8
                            replace fq_9 := (hs.o (gx.S hM) trivial rfl).2.trans fq_9
                            replace fx_14 := (hs.o (gx.S hM) trivial rfl).1.trans fx_14
                            replace fjw279_x_67 := (hs.o (gx.S hM) trivial rfl).1.trans fjw279_x_67
                            replace fq_16 := (hs.o (gx.S hM) trivial rfl).2.trans fq_16
                            replace fjw330_x_68 := (hs.o (gx.S hM) trivial rfl).1.trans fjw330_x_68
                            replace hM := hM.tr (hs.mono (by decide))
                            replace gq_9 := gq_9.S hs
                            replace gq_16 := gq_16.S hs
                            have f_182 : h_181.2.1 x 69 = x_180 := by rw [eh_181]; exact hx_pi_at _ _ _ _
                            exact join354 x_180 _ _ hL1 h_181 (i32_r _).1 (i32_r _).2  ls hW hT hM f_182 f_8 fq_9 fx_14 fjw279_x_67 fq_16 fjw330_x_68 gq_9 gq_16 (lv_sub hl [0, 1, 2, 3, 4, 5] rfl)
                        refine lv_aload_n hx hb dX10_looks_306 rfl (lv_at hl 2 rfl) ?_
                        refine lv_iload hx hb dX10_looks_307 (lv_at hl 0 rfl) ?_
                        refine lv_aload_n hx hb dX10_looks_309 rfl (lv_at hl 2 rfl) ?_
                        refine hk_geti hx hb hts hC_10 hown hW (gx.S hM) tt_10 67 (by decide) rfl kw_1210 ⟨rfl, rfl, rfl⟩ fjw279_x_67 dX10_looks_310 ?_
                        refine hb_icmp_le (zx := jv279_5.toInt) (zy := jw279_x_67.toInt) (tgt := 326) hx hb rfl rfl dX10_looks_313 (by decide) (fun c_183 => ?_) (fun c_183 => ?_)
                        · skip
                          refine lv_iconst (v := 0) hx hb dX10_looks_326 (by decide) ?_
                          refine hx_puti hx hb hts hC_10 hown hW hT (hx_S.rf (M := [(10, 68)])) (gx.S hM) tt_10 68 (by decide) rfl kw_1211 ⟨rfl, rfl, rfl⟩ rfl (x := (0 : Int32)) (by decide) rfl rfl rfl (List.mem_singleton.mpr rfl) dX10_looks_327 (fun H locs h_184 eh_184 hW hT hs => ?_)
                          replace f_6 := (hs.o (gx.S hM) trivial rfl).1.trans f_6
                          replace f_8 := (hs.o (gx.S hM) trivial rfl).1.trans f_8
                          replace fq_9 := (hs.o (gx.S hM) trivial rfl).2.trans fq_9
                          replace fx_14 := (hs.o (gx.S hM) trivial rfl).1.trans fx_14
                          replace fjw279_x_67 := (hs.o (gx.S hM) trivial rfl).1.trans fjw279_x_67
                          replace fq_16 := (hs.o (gx.S hM) trivial rfl).2.trans fq_16
                          replace ex_17 := ex_17.trans (hs.a gq_16 rfl _).1.symm
                          replace hM := hM.tr (hs.mono (by decide))
                          replace gq_9 := gq_9.S hs
                          replace gq_16 := gq_16.S hs
                          have f_185 : h_184.2.1 x 68 = (0 : Int32) := by rw [eh_184]; exact hx_pi_at _ _ _ _
                          have zk_0 : (0 : Int32).toInt = 0 := by decide
                          exact join330 (0 : Int32) _ _ hL1 h_184 (by decide) (by decide)  ls hW hT hM f_185 f_6 f_8 fq_9 fx_14 fjw279_x_67 fq_16 gq_9 gq_16 (lv_sub hl [0, 1, 2, 3, 4, 5] rfl)
                        · skip
                          refine lv_iload hx hb dX10_looks_316 (lv_at hl 0 rfl) ?_
                          refine lv_aload_n hx hb dX10_looks_318 rfl (lv_at hl 2 rfl) ?_
                          refine hk_geti hx hb hts hC_10 hown hW (gx.S hM) tt_10 67 (by decide) rfl kw_1210 ⟨rfl, rfl, rfl⟩ fjw279_x_67 dX10_looks_319 ?_
                          refine lv_isub hx hb dX10_looks_322 ?_
                          have rg_186 := i32_r jv279_5
                          have rg_187 := i32_r jw279_x_67
                          refine lv_topi (fun x_188 ex_188 => ?_)
                          have zx_188 : x_188.toInt = jv279_5.toInt - jw279_x_67.toInt := by rw [ex_188]; exact i32_sub rfl rfl (by omega) (by omega)
                          refine lv_goto (tgt := 327) hx hb dX10_looks_323 (by decide) ?_
                          refine hx_puti hx hb hts hC_10 hown hW hT (hx_S.rf (M := [(10, 68)])) (gx.S hM) tt_10 68 (by decide) rfl kw_1211 ⟨rfl, rfl, rfl⟩ rfl (x := x_188) ⟨by omega, by omega⟩ rfl rfl rfl (List.mem_singleton.mpr rfl) dX10_looks_327 (fun H locs h_189 eh_189 hW hT hs => ?_)
                          replace f_6 := (hs.o (gx.S hM) trivial rfl).1.trans f_6
                          replace f_8 := (hs.o (gx.S hM) trivial rfl).1.trans f_8
                          replace fq_9 := (hs.o (gx.S hM) trivial rfl).2.trans fq_9
                          replace fx_14 := (hs.o (gx.S hM) trivial rfl).1.trans fx_14
                          replace fjw279_x_67 := (hs.o (gx.S hM) trivial rfl).1.trans fjw279_x_67
                          replace fq_16 := (hs.o (gx.S hM) trivial rfl).2.trans fq_16
                          replace ex_17 := ex_17.trans (hs.a gq_16 rfl _).1.symm
                          replace hM := hM.tr (hs.mono (by decide))
                          replace gq_9 := gq_9.S hs
                          replace gq_16 := gq_16.S hs
                          have f_190 : h_189.2.1 x 68 = x_188 := by rw [eh_189]; exact hx_pi_at _ _ _ _
                          exact join330 x_188 _ _ hL1 h_189 (by omega) (by omega)  ls hW hT hM f_190 f_6 f_8 fq_9 fx_14 fjw279_x_67 fq_16 gq_9 gq_16 (lv_sub hl [0, 1, 2, 3, 4, 5] rfl)
                      · skip
                        refine lv_aload_n hx hb dX10_looks_299 rfl (lv_at hl 2 rfl) ?_
                        refine lv_bipush (v := 8) hx hb dX10_looks_300 (by decide) ?_
                        refine hx_puti hx hb hts hC_10 hown hW hT (hx_S.rf (M := [(10, 71)])) (gx.S hM) tt_10 71 (by decide) rfl kw_1214 ⟨rfl, rfl, rfl⟩ rfl (x := (8 : Int32)) (by decide) rfl rfl rfl (List.mem_singleton.mpr rfl) dX10_looks_302 (fun H locs h_191 eh_191 hW hT hs => ?_)
                        replace f_4 := (hs.o (gx.S hM) trivial rfl).1.trans f_4
                        replace f_6 := (hs.o (gx.S hM) trivial rfl).1.trans f_6
                        replace f_8 := (hs.o (gx.S hM) trivial rfl).1.trans f_8
                        replace fq_9 := (hs.o (gx.S hM) trivial rfl).2.trans fq_9
                        replace fx_14 := (hs.o (gx.S hM) trivial rfl).1.trans fx_14
                        replace fjw279_x_67 := (hs.o (gx.S hM) trivial rfl).1.trans fjw279_x_67
                        replace fq_16 := (hs.o (gx.S hM) trivial rfl).2.trans fq_16
                        replace ex_17 := ex_17.trans (hs.a gq_16 rfl _).1.symm
                        replace hM := hM.tr (hs.mono (by decide))
                        replace gq_9 := gq_9.S hs
                        replace gq_16 := gq_16.S hs
                        have f_192 : h_191.2.1 x 71 = (8 : Int32) := by rw [eh_191]; exact hx_pi_at _ _ _ _
                        have zo_0 : (0 : Int32).toInt = 0 := by decide
                        have zo_8 : (8 : Int32).toInt = 8 := by decide
                        exact hx_retv hx hb hr hlk hW ⟨⟨(0 : Int32), (8 : Int32), jw279_x_67, f_4, f_192, fjw279_x_67, (by first | omega | (refine ⟨?_, ?_⟩ <;> omega))⟩, hT, hM⟩ dX10_looks_305
                  refine lv_aload_n hx hb dX10_looks_225 rfl (lv_at hl 2 rfl) ?_
                  refine lv_dup hx hb dX10_looks_226 rfl ?_
                  refine hk_geti hx hb hts hC_10 hown hW (gx.S hM) tt_10 67 (by decide) rfl kw_1210 ⟨rfl, rfl, rfl⟩ ffw139_x_67 dX10_looks_227 ?_
                  refine lv_iload hx hb dX10_looks_230 (lv_at hl 1 rfl) ?_
                  refine hb_if_eq (zx := jv136_4.toInt) (tgt := 244) hx hb rfl dX10_looks_232 (by decide) (fun c_193 => ?_) (fun c_193 => ?_)
                  · skip
                    refine lv_iconst (v := 0) hx hb dX10_looks_244 (by decide) ?_
                    refine lv_iadd hx hb dX10_looks_245 ?_
                    have rg_194 := i32_r fw139_x_67
                    refine lv_topi (fun x_195 ex_195 => ?_)
                    have zx_195 : x_195.toInt = fw139_x_67.toInt + 0 := by rw [ex_195]; exact i32_add rfl (by decide) (by omega) (by omega)
                    refine hx_puti hx hb hts hC_10 hown hW hT (hx_S.rf (M := [(10, 67)])) (gx.S hM) tt_10 67 (by decide) rfl kw_1210 ⟨rfl, rfl, rfl⟩ rfl (x := x_195) ⟨by omega, by omega⟩ rfl rfl rfl (List.mem_singleton.mpr rfl) dX10_looks_246 (fun H locs h_196 eh_196 hW hT hs => ?_)
                    replace f_4 := (hs.o (gx.S hM) trivial rfl).1.trans f_4
                    replace f_6 := (hs.o (gx.S hM) trivial rfl).1.trans f_6
                    replace f_8 := (hs.o (gx.S hM) trivial rfl).1.trans f_8
                    replace fjw88_x_71 := (hs.o (gx.S hM) trivial rfl).1.trans fjw88_x_71
                    replace fq_9 := (hs.o (gx.S hM) trivial rfl).2.trans fq_9
                    replace fx_14 := (hs.o (gx.S hM) trivial rfl).1.trans fx_14
                    replace hM := hM.tr (hs.mono (by decide))
                    replace gq_9 := gq_9.S hs
                    have f_197 : h_196.2.1 x 67 = x_195 := by rw [eh_196]; exact hx_pi_at _ _ _ _
                    refine lv_aload_n hx hb dX10_looks_249 rfl (lv_at hl 2 rfl) ?_
                    refine hx_getn hx hb hts hC_10 hown hW hT (gx.S hM) tt_10 55 (by decide) rfl kw_1198 ⟨rfl, rfl, rfl⟩ dX10_looks_250 (fun q_198 fq_198 gq_198 => ?_)
                    refine lv_iload_n hx hb dX10_looks_253 rfl (lv_at hl 3 rfl) ?_
                    refine hx_iald hx hb hW hT gq_198 tt_90 rfl ⟨by omega, by omega⟩ dX10_looks_254 (fun x_199 ex_199 lx_199 ux_199 => ?_)
                    refine lv_iload hx hb dX10_looks_255 (lv_at hl 1 rfl) ?_
                    refine hb_if_eq (zx := jv136_4.toInt) (tgt := 275) hx hb rfl dX10_looks_257 (by decide) (fun c_200 => ?_) (fun c_200 => by exfalso; omega)
                    refine lv_iconst (v := 0) hx hb dX10_looks_275 (by decide) ?_
                    refine lv_iadd hx hb dX10_looks_276 ?_
                    have rg_201 := i32_r x_199
                    refine lv_topi (fun x_202 ex_202 => ?_)
                    have zx_202 : x_202.toInt = x_199.toInt + 0 := by rw [ex_202]; exact i32_add rfl (by decide) (by omega) (by omega)
                    refine lv_istore (lv' := [(5, .int x_202), (4, .int jv136_4), (0, .ref x), (1, .int i1), (2, .int i2), (3, .int i3)]) hx hb dX10_looks_277 hl (by decide) rfl (fun ls hl => ?_)
                    exact join279 x_202 x_195 _ _ hL1 h_196 (by omega) (by omega) (by omega) (by omega)  ls hW hT hM f_197 f_4 f_6 f_8 fq_9 fx_14 gq_9 (lv_sub hl [0, 1, 2, 3, 4, 5] rfl)
                  · skip
                    refine lv_aload_n hx hb dX10_looks_235 rfl (lv_at hl 2 rfl) ?_
                    refine hx_getn hx hb hts hC_10 hown hW hT (gx.S hM) tt_10 56 (by decide) rfl kw_1199 ⟨rfl, rfl, rfl⟩ dX10_looks_236 (fun q_203 fq_203 gq_203 => ?_)
                    refine lv_iload_n hx hb dX10_looks_239 rfl (lv_at hl 3 rfl) ?_
                    refine hx_iald hx hb hW hT gq_203 tt_91 rfl ⟨by omega, by omega⟩ dX10_looks_240 (fun x_204 ex_204 lx_204 ux_204 => ?_)
                    refine lv_goto (tgt := 245) hx hb dX10_looks_241 (by decide) ?_
                    refine lv_iadd hx hb dX10_looks_245 ?_
                    have rg_205 := i32_r fw139_x_67
                    have rg_206 := i32_r x_204
                    refine lv_topi (fun x_207 ex_207 => ?_)
                    have zx_207 : x_207.toInt = fw139_x_67.toInt + x_204.toInt := by rw [ex_207]; exact i32_add rfl rfl (by omega) (by omega)
                    refine hx_puti hx hb hts hC_10 hown hW hT (hx_S.rf (M := [(10, 67)])) (gx.S hM) tt_10 67 (by decide) rfl kw_1210 ⟨rfl, rfl, rfl⟩ rfl (x := x_207) ⟨by omega, by omega⟩ rfl rfl rfl (List.mem_singleton.mpr rfl) dX10_looks_246 (fun H locs h_208 eh_208 hW hT hs => ?_)
                    replace f_4 := (hs.o (gx.S hM) trivial rfl).1.trans f_4
                    replace f_6 := (hs.o (gx.S hM) trivial rfl).1.trans f_6
                    replace f_8 := (hs.o (gx.S hM) trivial rfl).1.trans f_8
                    replace fjw88_x_71 := (hs.o (gx.S hM) trivial rfl).1.trans fjw88_x_71
                    replace fq_9 := (hs.o (gx.S hM) trivial rfl).2.trans fq_9
                    replace fx_14 := (hs.o (gx.S hM) trivial rfl).1.trans fx_14
                    replace fq_203 := (hs.o (gx.S hM) trivial rfl).2.trans fq_203
                    replace ex_204 := ex_204.trans (hs.a gq_203 rfl _).1.symm
                    replace hM := hM.tr (hs.mono (by decide))
                    replace gq_9 := gq_9.S hs
                    replace gq_203 := gq_203.S hs
                    have f_209 : h_208.2.1 x 67 = x_207 := by rw [eh_208]; exact hx_pi_at _ _ _ _
                    refine lv_aload_n hx hb dX10_looks_249 rfl (lv_at hl 2 rfl) ?_
                    refine hx_getn hx hb hts hC_10 hown hW hT (gx.S hM) tt_10 55 (by decide) rfl kw_1198 ⟨rfl, rfl, rfl⟩ dX10_looks_250 (fun q_210 fq_210 gq_210 => ?_)
                    refine lv_iload_n hx hb dX10_looks_253 rfl (lv_at hl 3 rfl) ?_
                    refine hx_iald hx hb hW hT gq_210 tt_90 rfl ⟨by omega, by omega⟩ dX10_looks_254 (fun x_211 ex_211 lx_211 ux_211 => ?_)
                    refine lv_iload hx hb dX10_looks_255 (lv_at hl 1 rfl) ?_
                    refine hb_if_eq (zx := jv136_4.toInt) (tgt := 275) hx hb rfl dX10_looks_257 (by decide) (fun c_212 => by exfalso; omega) (fun c_212 => ?_)
                    refine lv_aload_n hx hb dX10_looks_260 rfl (lv_at hl 2 rfl) ?_
                    refine lv_aload_n hx hb dX10_looks_261 rfl (lv_at hl 2 rfl) ?_
                    refine hx_getn hx hb hts hC_10 hown hW hT (gx.S hM) tt_10 44 (by decide) rfl kw_1187 ⟨rfl, rfl, rfl⟩ dX10_looks_262 (fun q_213 fq_213 gq_213 => ?_)
                    refine lv_iload_n hx hb dX10_looks_265 rfl (lv_at hl 3 rfl) ?_
                    refine hx_iald hx hb hW hT gq_213 tt_79 rfl ⟨by omega, by omega⟩ dX10_looks_266 (fun x_214 ex_214 lx_214 ux_214 => ?_)
                    refine lv_bipush (v := 12) hx hb dX10_looks_267 (by decide) ?_
                    have zc_12 : (12 : Int32).toInt = 12 := by decide
                    refine hx_goi (hx_runV (As := [.int x_214, .int (12 : Int32)]) (rest := [.int x_211]) ⟨hx, hb, hml, hown, hts⟩ hW (gx.S hM) tt_10 (T := TX10) (N := 98) rfl (t_X10_ruleOf l dC dI dA hL1 h_208 H.size x x_214 (12 : Int32) hT (gx.S hM) ⟨by omega, by omega⟩ (by decide)) (cwV 2 hts (hx_gV kw_1533 kw_1530 kw_1532 kw_66 kw_103) rfl rfl rfl (by decide +kernel) ⟨Nat.le_of_ble_eq_true rfl, Nat.le_of_ble_eq_true rfl⟩) rfl hl.1 rfl (Nat.le_of_ble_eq_true rfl) dX10_looks_269 ⟨Nat.le_of_ble_eq_true rfl, Nat.le_of_ble_eq_true rfl⟩) hW (fun r_217 L_215 h_216 H locs p_218 hW => ?_)
                    obtain ⟨hr_219, hT, hs⟩ := p_218
                    replace hT : hx_T T_tb L_215 h_216 := hT
                    replace hs : hx_S T_tb [] hL1 h_208 L_215 h_216 := hs
                    replace f_4 := (hs.o (gx.S hM) trivial rfl).1.trans f_4
                    replace f_6 := (hs.o (gx.S hM) trivial rfl).1.trans f_6
                    replace f_8 := (hs.o (gx.S hM) trivial rfl).1.trans f_8
                    replace fjw88_x_71 := (hs.o (gx.S hM) trivial rfl).1.trans fjw88_x_71
                    replace fq_9 := (hs.o (gx.S hM) trivial rfl).2.trans fq_9
                    replace fx_14 := (hs.o (gx.S hM) trivial rfl).1.trans fx_14
                    replace fq_203 := (hs.o (gx.S hM) trivial rfl).2.trans fq_203
                    replace f_209 := (hs.o (gx.S hM) trivial rfl).1.trans f_209
                    replace fq_210 := (hs.o (gx.S hM) trivial rfl).2.trans fq_210
                    replace fq_213 := (hs.o (gx.S hM) trivial rfl).2.trans fq_213
                    replace ex_204 := ex_204.trans (hs.a gq_203 rfl _).1.symm
                    replace ex_211 := ex_211.trans (hs.a gq_210 rfl _).1.symm
                    replace ex_214 := ex_214.trans (hs.a gq_213 rfl _).1.symm
                    replace hM := hM.tr (hs.mono (by decide))
                    replace gq_9 := gq_9.S hs
                    replace gq_203 := gq_203.S hs
                    replace gq_210 := gq_210.S hs
                    replace gq_213 := gq_213.S hs
                    refine lv_goto (tgt := 276) hx hb dX10_looks_272 (by decide) ?_
                    refine lv_iadd hx hb dX10_looks_276 ?_
                    have rg_220 := i32_r x_211
                    have rg_221 := i32_r r_217
                    refine lv_topi (fun x_222 ex_222 => ?_)
                    have zx_222 : x_222.toInt = x_211.toInt + r_217.toInt := by rw [ex_222]; exact i32_add rfl rfl (by omega) (by omega)
                    refine lv_istore (lv' := [(5, .int x_222), (4, .int jv136_4), (0, .ref x), (1, .int i1), (2, .int i2), (3, .int i3)]) hx hb dX10_looks_277 hl (by decide) rfl (fun ls hl => ?_)
                    exact join279 x_222 x_207 _ _ L_215 h_216 (by omega) (by omega) (by omega) (by omega)  ls hW hT hM f_209 f_4 f_6 f_8 fq_9 fx_14 gq_9 (lv_sub hl [0, 1, 2, 3, 4, 5] rfl)
                · skip
                  refine lv_aload_n hx hb dX10_looks_148 rfl (lv_at hl 2 rfl) ?_
                  refine hx_getn hx hb hts hC_10 hown hW hT (gx.S hM) tt_10 60 (by decide) rfl kw_1203 ⟨rfl, rfl, rfl⟩ dX10_looks_149 (fun q_223 fq_223 gq_223 => ?_)
                  refine lv_iload hx hb dX10_looks_152 (lv_at hl 0 rfl) ?_
                  refine hx_iald hx hb hW hT gq_223 tt_93 rfl ⟨by omega, by omega⟩ dX10_looks_154 (fun x_224 ex_224 lx_224 ux_224 => ?_)
                  refine lv_iload_n hx hb dX10_looks_155 rfl (lv_at hl 3 rfl) ?_
                  refine hb_icmp_ne (zx := x_224.toInt) (zy := i1.toInt) (tgt := 219) hx hb rfl rfl dX10_looks_156 (by decide) (fun c_225 => ?_) (fun c_225 => ?_)
                  · skip
                    obtain ⟨x_226, ex_226⟩ : ∃ y : Int32, y = iv139_5 + Int32.ofInt 1 := ⟨_, rfl⟩
                    have rg_227 := i32_r iv139_5
                    have zx_226 : x_226.toInt = iv139_5.toInt + (1) := by rw [ex_226]; exact i32_add rfl (by decide) (by omega) (by omega)
                    refine lv_iinc (v := x_226) (lv' := [(5, .int x_226), (4, .int jv136_4), (0, .ref x), (1, .int i1), (2, .int i2), (3, .int i3)]) hx hb dX10_looks_219 hl (k := 0) rfl ex_226.symm (by decide) rfl (fun ls hl => ?_)
                    refine lv_goto (tgt := 139) hx hb dX10_looks_222 (by decide) ?_
                    exact ih139 x_226 fw139_x_67 _ _ hL1 hl1 (by omega) (by omega) (by omega) (by omega) (by omega) ls (by omega) hW hT hM ffw139_x_67 f_4 f_6 f_8 fjw88_x_71 fq_9 gq_9 (lv_sub hl [0, 1, 2, 3, 4, 5] rfl)
                  · skip
                    refine lv_aload_n hx hb dX10_looks_159 rfl (lv_at hl 2 rfl) ?_
                    refine hx_getn hx hb hts hC_10 hown hW hT (gx.S hM) tt_10 61 (by decide) rfl kw_1204 ⟨rfl, rfl, rfl⟩ dX10_looks_160 (fun q_228 fq_228 gq_228 => ?_)
                    refine lv_iload hx hb dX10_looks_163 (lv_at hl 0 rfl) ?_
                    refine hx_iald hx hb hW hT gq_228 tt_94 rfl ⟨by omega, by omega⟩ dX10_looks_165 (fun x_229 ex_229 lx_229 ux_229 => ?_)
                    refine lv_iload_n hx hb dX10_looks_166 rfl (lv_at hl 4 rfl) ?_
                    refine hb_icmp_gt (zx := x_229.toInt) (zy := i2.toInt) (tgt := 219) hx hb rfl rfl dX10_looks_167 (by decide) (fun c_230 => ?_) (fun c_230 => ?_)
                    · skip
                      obtain ⟨x_231, ex_231⟩ : ∃ y : Int32, y = iv139_5 + Int32.ofInt 1 := ⟨_, rfl⟩
                      have rg_232 := i32_r iv139_5
                      have zx_231 : x_231.toInt = iv139_5.toInt + (1) := by rw [ex_231]; exact i32_add rfl (by decide) (by omega) (by omega)
                      refine lv_iinc (v := x_231) (lv' := [(5, .int x_231), (4, .int jv136_4), (0, .ref x), (1, .int i1), (2, .int i2), (3, .int i3)]) hx hb dX10_looks_219 hl (k := 0) rfl ex_231.symm (by decide) rfl (fun ls hl => ?_)
                      refine lv_goto (tgt := 139) hx hb dX10_looks_222 (by decide) ?_
                      exact ih139 x_231 fw139_x_67 _ _ hL1 hl1 (by omega) (by omega) (by omega) (by omega) (by omega) ls (by omega) hW hT hM ffw139_x_67 f_4 f_6 f_8 fjw88_x_71 fq_9 gq_9 (lv_sub hl [0, 1, 2, 3, 4, 5] rfl)
                    · skip
                      refine lv_aload_n hx hb dX10_looks_170 rfl (lv_at hl 2 rfl) ?_
                      refine hx_getn hx hb hts hC_10 hown hW hT (gx.S hM) tt_10 63 (by decide) rfl kw_1206 ⟨rfl, rfl, rfl⟩ dX10_looks_171 (fun q_233 fq_233 gq_233 => ?_)
                      refine lv_iload hx hb dX10_looks_174 (lv_at hl 0 rfl) ?_
                      refine hx_iald hx hb hW hT gq_233 tt_96 rfl ⟨by omega, by omega⟩ dX10_looks_176 (fun x_234 ex_234 lx_234 ux_234 => ?_)
                      refine lv_iload_n hx hb dX10_looks_177 rfl (lv_at hl 5 rfl) ?_
                      refine hb_icmp_gt (zx := x_234.toInt) (zy := i3.toInt) (tgt := 219) hx hb rfl rfl dX10_looks_178 (by decide) (fun c_235 => ?_) (fun c_235 => ?_)
                      · skip
                        obtain ⟨x_236, ex_236⟩ : ∃ y : Int32, y = iv139_5 + Int32.ofInt 1 := ⟨_, rfl⟩
                        have rg_237 := i32_r iv139_5
                        have zx_236 : x_236.toInt = iv139_5.toInt + (1) := by rw [ex_236]; exact i32_add rfl (by decide) (by omega) (by omega)
                        refine lv_iinc (v := x_236) (lv' := [(5, .int x_236), (4, .int jv136_4), (0, .ref x), (1, .int i1), (2, .int i2), (3, .int i3)]) hx hb dX10_looks_219 hl (k := 0) rfl ex_236.symm (by decide) rfl (fun ls hl => ?_)
                        refine lv_goto (tgt := 139) hx hb dX10_looks_222 (by decide) ?_
                        exact ih139 x_236 fw139_x_67 _ _ hL1 hl1 (by omega) (by omega) (by omega) (by omega) (by omega) ls (by omega) hW hT hM ffw139_x_67 f_4 f_6 f_8 fjw88_x_71 fq_9 gq_9 (lv_sub hl [0, 1, 2, 3, 4, 5] rfl)
                      · skip
                        refine lv_aload_n hx hb dX10_looks_181 rfl (lv_at hl 2 rfl) ?_
                        refine hx_getn hx hb hts hC_10 hown hW hT (gx.S hM) tt_10 64 (by decide) rfl kw_1207 ⟨rfl, rfl, rfl⟩ dX10_looks_182 (fun q_238 fq_238 gq_238 => ?_)
                        refine lv_iload hx hb dX10_looks_185 (lv_at hl 0 rfl) ?_
                        refine hx_iald hx hb hW hT gq_238 tt_97 rfl ⟨by omega, by omega⟩ dX10_looks_187 (fun x_239 ex_239 lx_239 ux_239 => ?_)
                        refine lv_iconst (v := -1) hx hb dX10_looks_188 (by decide) ?_
                        refine hb_icmp_eq (zx := x_239.toInt) (zy := (-1)) (tgt := 203) hx hb rfl (by decide) dX10_looks_189 (by decide) (fun c_240 => ?_) (fun c_240 => ?_)
                        · skip
                          refine lv_aload_n hx hb dX10_looks_203 rfl (lv_at hl 2 rfl) ?_
                          refine lv_dup hx hb dX10_looks_204 rfl ?_
                          refine hk_geti hx hb hts hC_10 hown hW (gx.S hM) tt_10 67 (by decide) rfl kw_1210 ⟨rfl, rfl, rfl⟩ ffw139_x_67 dX10_looks_205 ?_
                          refine lv_aload_n hx hb dX10_looks_208 rfl (lv_at hl 2 rfl) ?_
                          refine hx_getn hx hb hts hC_10 hown hW hT (gx.S hM) tt_10 62 (by decide) rfl kw_1205 ⟨rfl, rfl, rfl⟩ dX10_looks_209 (fun q_241 fq_241 gq_241 => ?_)
                          refine lv_iload hx hb dX10_looks_212 (lv_at hl 0 rfl) ?_
                          refine hx_iald hx hb hW hT gq_241 tt_95 rfl ⟨by omega, by omega⟩ dX10_looks_214 (fun x_242 ex_242 lx_242 ux_242 => ?_)
                          refine lv_iadd hx hb dX10_looks_215 ?_
                          have rg_243 := i32_r fw139_x_67
                          have rg_244 := i32_r x_242
                          refine lv_topi (fun x_245 ex_245 => ?_)
                          have zx_245 : x_245.toInt = fw139_x_67.toInt + x_242.toInt := by rw [ex_245]; exact i32_add rfl rfl (by omega) (by omega)
                          refine hx_puti hx hb hts hC_10 hown hW hT (hx_S.rf (M := [(10, 67)])) (gx.S hM) tt_10 67 (by decide) rfl kw_1210 ⟨rfl, rfl, rfl⟩ rfl (x := x_245) ⟨by omega, by omega⟩ rfl rfl rfl (List.mem_singleton.mpr rfl) dX10_looks_216 (fun H locs h_246 eh_246 hW hT hs => ?_)
                          replace f_4 := (hs.o (gx.S hM) trivial rfl).1.trans f_4
                          replace f_6 := (hs.o (gx.S hM) trivial rfl).1.trans f_6
                          replace f_8 := (hs.o (gx.S hM) trivial rfl).1.trans f_8
                          replace fjw88_x_71 := (hs.o (gx.S hM) trivial rfl).1.trans fjw88_x_71
                          replace fq_9 := (hs.o (gx.S hM) trivial rfl).2.trans fq_9
                          replace fx_14 := (hs.o (gx.S hM) trivial rfl).1.trans fx_14
                          replace fq_223 := (hs.o (gx.S hM) trivial rfl).2.trans fq_223
                          replace fq_228 := (hs.o (gx.S hM) trivial rfl).2.trans fq_228
                          replace fq_233 := (hs.o (gx.S hM) trivial rfl).2.trans fq_233
                          replace fq_238 := (hs.o (gx.S hM) trivial rfl).2.trans fq_238
                          replace fq_241 := (hs.o (gx.S hM) trivial rfl).2.trans fq_241
                          replace ex_224 := ex_224.trans (hs.a gq_223 rfl _).1.symm
                          replace ex_229 := ex_229.trans (hs.a gq_228 rfl _).1.symm
                          replace ex_234 := ex_234.trans (hs.a gq_233 rfl _).1.symm
                          replace ex_239 := ex_239.trans (hs.a gq_238 rfl _).1.symm
                          replace ex_242 := ex_242.trans (hs.a gq_241 rfl _).1.symm
                          replace hM := hM.tr (hs.mono (by decide))
                          replace gq_9 := gq_9.S hs
                          replace gq_223 := gq_223.S hs
                          replace gq_228 := gq_228.S hs
                          replace gq_233 := gq_233.S hs
                          replace gq_238 := gq_238.S hs
                          replace gq_241 := gq_241.S hs
                          have f_247 : h_246.2.1 x 67 = x_245 := by rw [eh_246]; exact hx_pi_at _ _ _ _
                          obtain ⟨x_248, ex_248⟩ : ∃ y : Int32, y = iv139_5 + Int32.ofInt 1 := ⟨_, rfl⟩
                          have rg_249 := i32_r iv139_5
                          have zx_248 : x_248.toInt = iv139_5.toInt + (1) := by rw [ex_248]; exact i32_add rfl (by decide) (by omega) (by omega)
                          refine lv_iinc (v := x_248) (lv' := [(5, .int x_248), (4, .int jv136_4), (0, .ref x), (1, .int i1), (2, .int i2), (3, .int i3)]) hx hb dX10_looks_219 hl (k := 0) rfl ex_248.symm (by decide) rfl (fun ls hl => ?_)
                          refine lv_goto (tgt := 139) hx hb dX10_looks_222 (by decide) ?_
                          exact ih139 x_248 x_245 _ _ hL1 h_246 (by omega) (by omega) (by omega) (by omega) (by omega) ls (by omega) hW hT hM f_247 f_4 f_6 f_8 fjw88_x_71 fq_9 gq_9 (lv_sub hl [0, 1, 2, 3, 4, 5] rfl)
                        · skip
                          refine lv_aload_n hx hb dX10_looks_192 rfl (lv_at hl 2 rfl) ?_
                          refine hk_getr hx hb hts hC_10 hown hW (gx.S hM) tt_10 64 (by decide) rfl kw_1207 ⟨rfl, rfl, rfl⟩ fq_238 dX10_looks_193 ?_
                          refine lv_iload hx hb dX10_looks_196 (lv_at hl 0 rfl) ?_
                          refine hx_iald hx hb hW hT gq_238 tt_97 rfl ⟨by omega, by omega⟩ dX10_looks_198 (fun x_250 ex_250 lx_250 ux_250 => ?_)
                          obtain rfl : x_239 = x_250 := ex_239.trans ex_250.symm
                          refine lv_iload_n hx hb dX10_looks_199 rfl (lv_at hl 5 rfl) ?_
                          refine hb_icmp_le (zx := x_239.toInt) (zy := i3.toInt) (tgt := 219) hx hb rfl rfl dX10_looks_200 (by decide) (fun c_251 => ?_) (fun c_251 => ?_)
                          · skip
                            obtain ⟨x_252, ex_252⟩ : ∃ y : Int32, y = iv139_5 + Int32.ofInt 1 := ⟨_, rfl⟩
                            have rg_253 := i32_r iv139_5
                            have zx_252 : x_252.toInt = iv139_5.toInt + (1) := by rw [ex_252]; exact i32_add rfl (by decide) (by omega) (by omega)
                            refine lv_iinc (v := x_252) (lv' := [(5, .int x_252), (4, .int jv136_4), (0, .ref x), (1, .int i1), (2, .int i2), (3, .int i3)]) hx hb dX10_looks_219 hl (k := 0) rfl ex_252.symm (by decide) rfl (fun ls hl => ?_)
                            refine lv_goto (tgt := 139) hx hb dX10_looks_222 (by decide) ?_
                            exact ih139 x_252 fw139_x_67 _ _ hL1 hl1 (by omega) (by omega) (by omega) (by omega) (by omega) ls (by omega) hW hT hM ffw139_x_67 f_4 f_6 f_8 fjw88_x_71 fq_9 gq_9 (lv_sub hl [0, 1, 2, 3, 4, 5] rfl)
                          · skip
                            refine lv_aload_n hx hb dX10_looks_203 rfl (lv_at hl 2 rfl) ?_
                            refine lv_dup hx hb dX10_looks_204 rfl ?_
                            refine hk_geti hx hb hts hC_10 hown hW (gx.S hM) tt_10 67 (by decide) rfl kw_1210 ⟨rfl, rfl, rfl⟩ ffw139_x_67 dX10_looks_205 ?_
                            refine lv_aload_n hx hb dX10_looks_208 rfl (lv_at hl 2 rfl) ?_
                            refine hx_getn hx hb hts hC_10 hown hW hT (gx.S hM) tt_10 62 (by decide) rfl kw_1205 ⟨rfl, rfl, rfl⟩ dX10_looks_209 (fun q_254 fq_254 gq_254 => ?_)
                            refine lv_iload hx hb dX10_looks_212 (lv_at hl 0 rfl) ?_
                            refine hx_iald hx hb hW hT gq_254 tt_95 rfl ⟨by omega, by omega⟩ dX10_looks_214 (fun x_255 ex_255 lx_255 ux_255 => ?_)
                            refine lv_iadd hx hb dX10_looks_215 ?_
                            have rg_256 := i32_r fw139_x_67
                            have rg_257 := i32_r x_255
                            refine lv_topi (fun x_258 ex_258 => ?_)
                            have zx_258 : x_258.toInt = fw139_x_67.toInt + x_255.toInt := by rw [ex_258]; exact i32_add rfl rfl (by omega) (by omega)
                            refine hx_puti hx hb hts hC_10 hown hW hT (hx_S.rf (M := [(10, 67)])) (gx.S hM) tt_10 67 (by decide) rfl kw_1210 ⟨rfl, rfl, rfl⟩ rfl (x := x_258) ⟨by omega, by omega⟩ rfl rfl rfl (List.mem_singleton.mpr rfl) dX10_looks_216 (fun H locs h_259 eh_259 hW hT hs => ?_)
                            replace f_4 := (hs.o (gx.S hM) trivial rfl).1.trans f_4
                            replace f_6 := (hs.o (gx.S hM) trivial rfl).1.trans f_6
                            replace f_8 := (hs.o (gx.S hM) trivial rfl).1.trans f_8
                            replace fjw88_x_71 := (hs.o (gx.S hM) trivial rfl).1.trans fjw88_x_71
                            replace fq_9 := (hs.o (gx.S hM) trivial rfl).2.trans fq_9
                            replace fx_14 := (hs.o (gx.S hM) trivial rfl).1.trans fx_14
                            replace fq_223 := (hs.o (gx.S hM) trivial rfl).2.trans fq_223
                            replace fq_228 := (hs.o (gx.S hM) trivial rfl).2.trans fq_228
                            replace fq_233 := (hs.o (gx.S hM) trivial rfl).2.trans fq_233
                            replace fq_238 := (hs.o (gx.S hM) trivial rfl).2.trans fq_238
                            replace fq_254 := (hs.o (gx.S hM) trivial rfl).2.trans fq_254
                            replace ex_224 := ex_224.trans (hs.a gq_223 rfl _).1.symm
                            replace ex_229 := ex_229.trans (hs.a gq_228 rfl _).1.symm
                            replace ex_234 := ex_234.trans (hs.a gq_233 rfl _).1.symm
                            replace ex_239 := ex_239.trans (hs.a gq_238 rfl _).1.symm
                            replace ex_255 := ex_255.trans (hs.a gq_254 rfl _).1.symm
                            replace hM := hM.tr (hs.mono (by decide))
                            replace gq_9 := gq_9.S hs
                            replace gq_223 := gq_223.S hs
                            replace gq_228 := gq_228.S hs
                            replace gq_233 := gq_233.S hs
                            replace gq_238 := gq_238.S hs
                            replace gq_254 := gq_254.S hs
                            have f_260 : h_259.2.1 x 67 = x_258 := by rw [eh_259]; exact hx_pi_at _ _ _ _
                            obtain ⟨x_261, ex_261⟩ : ∃ y : Int32, y = iv139_5 + Int32.ofInt 1 := ⟨_, rfl⟩
                            have rg_262 := i32_r iv139_5
                            have zx_261 : x_261.toInt = iv139_5.toInt + (1) := by rw [ex_261]; exact i32_add rfl (by decide) (by omega) (by omega)
                            refine lv_iinc (v := x_261) (lv' := [(5, .int x_261), (4, .int jv136_4), (0, .ref x), (1, .int i1), (2, .int i2), (3, .int i3)]) hx hb dX10_looks_219 hl (k := 0) rfl ex_261.symm (by decide) rfl (fun ls hl => ?_)
                            refine lv_goto (tgt := 139) hx hb dX10_looks_222 (by decide) ?_
                            exact ih139 x_261 x_258 _ _ hL1 h_259 (by omega) (by omega) (by omega) (by omega) (by omega) ls (by omega) hW hT hM f_260 f_4 f_6 f_8 fjw88_x_71 fq_9 gq_9 (lv_sub hl [0, 1, 2, 3, 4, 5] rfl)
            have zk_0 : (0 : Int32).toInt = 0 := by decide
            have zk_0 : (0 : Int32).toInt = 0 := by decide
            exact loop139 601 (0 : Int32) (0 : Int32) _ _ hL1 hl1 (by decide) (by decide) (by decide) (by decide) (by omega) ls (by omega) hW hT hM f_2 f_4 f_6 f_8 fjw88_x_71 fq_9 gq_9 hl
          refine lv_aload_n hx hb dX10_looks_109 rfl (lv_at hl 0 rfl) ?_
          refine hx_getn hx hb hts hC_10 hown hW hT (gx.S hM) tt_10 49 (by decide) rfl kw_1192 ⟨rfl, rfl, rfl⟩ dX10_looks_110 (fun q_263 fq_263 gq_263 => ?_)
          refine lv_iload_n hx hb dX10_looks_113 rfl (lv_at hl 1 rfl) ?_
          refine hx_iald hx hb hW hT gq_263 tt_84 rfl ⟨by omega, by omega⟩ dX10_looks_114 (fun x_264 ex_264 lx_264 ux_264 => ?_)
          refine lv_iconst (v := -1) hx hb dX10_looks_115 (by decide) ?_
          refine hb_icmp_eq (zx := x_264.toInt) (zy := (-1)) (tgt := 133) hx hb rfl (by decide) dX10_looks_116 (by decide) (fun c_265 => ?_) (fun c_265 => ?_)
          · skip
            refine lv_iconst (v := 0) hx hb dX10_looks_133 (by decide) ?_
            refine lv_istore (lv' := [(4, .int (0 : Int32)), (0, .ref x), (1, .int i1), (2, .int i2), (3, .int i3)]) hx hb dX10_looks_134 hl (by decide) rfl (fun ls hl => ?_)
            have zk_0 : (0 : Int32).toInt = 0 := by decide
            exact join136 (0 : Int32) _ _ hL1 hl1 (by decide) (by decide)  ls hW hT hM f_2 f_4 f_6 f_8 fjw88_x_71 fq_9 gq_9 (lv_sub hl [0, 1, 2, 3, 4] rfl)
          · skip
            refine lv_aload_n hx hb dX10_looks_119 rfl (lv_at hl 0 rfl) ?_
            refine hk_getr hx hb hts hC_10 hown hW (gx.S hM) tt_10 49 (by decide) rfl kw_1192 ⟨rfl, rfl, rfl⟩ fq_263 dX10_looks_120 ?_
            refine lv_iload_n hx hb dX10_looks_123 rfl (lv_at hl 1 rfl) ?_
            refine hx_iald hx hb hW hT gq_263 tt_84 rfl ⟨by omega, by omega⟩ dX10_looks_124 (fun x_266 ex_266 lx_266 ux_266 => ?_)
            obtain rfl : x_264 = x_266 := ex_264.trans ex_266.symm
            refine lv_iload_n hx hb dX10_looks_125 rfl (lv_at hl 2 rfl) ?_
            have jn_134 : ∀ (xj_267 : Int32) (ls : Array Slot), 0 ≤ xj_267.toInt → xj_267.toInt ≤ 1 → lv_has ls 9 [(0, .ref x), (1, .int i1), (2, .int i2), (3, .int i3)] → W p l e ({ frames := 1, cells := 0, slots := 0, locals := 22 }) s m ([.ref x, .int i1, .int i2, .int i3] : List Value).toArray below meth c H locs 0 0 (MQ below (va_Qv (fun (u : List Nat × hx_h) => (∃ (rs1 : Int32) (st1 : Int32) (pd1 : Int32), u.2.2.1 x 68 = rs1 ∧ u.2.2.1 x 71 = st1 ∧ u.2.2.1 x 67 = pd1 ∧ (4 ≤ st1.toInt ∧ st1.toInt ≤ 6 → 1 ≤ rs1.toInt)) ∧ hx_T T_tb u.1 u.2 ∧ hx_S T_tb [(10, 67), (10, 68), (10, 69), (10, 70), (10, 71)] L h u.1 u.2) (hx_E T_tb (P_ty dA) (dC, dI) vwCl (hx_A L sz)) (hx_A L sz)) ([.ref x, .int i1, .int i2, .int i3] : List Value).toArray s 0 0 (hx_A L sz)) (F0 m 134 ls [.int xj_267]) := by
              intro xj_267 ls blxj_267 buxj_267 hl
              refine lv_istore (lv' := [(4, .int xj_267), (0, .ref x), (1, .int i1), (2, .int i2), (3, .int i3)]) hx hb dX10_looks_134 hl (by decide) rfl (fun ls hl => ?_)
              exact join136 xj_267 _ _ hL1 hl1 (by omega) (by omega)  ls hW hT hM f_2 f_4 f_6 f_8 fjw88_x_71 fq_9 gq_9 (lv_sub hl [0, 1, 2, 3, 4] rfl)
            refine hb_icmp_gt (zx := x_264.toInt) (zy := i2.toInt) (tgt := 133) hx hb rfl rfl dX10_looks_126 (by decide) (fun c_268 => ?_) (fun c_268 => ?_)
            · skip
              refine lv_iconst (v := 0) hx hb dX10_looks_133 (by decide) ?_
              exact jn_134 (0 : Int32) ls (by decide) (by decide) hl
            · skip
              refine lv_iconst (v := 1) hx hb dX10_looks_129 (by decide) ?_
              refine lv_goto (tgt := 134) hx hb dX10_looks_130 (by decide) ?_
              exact jn_134 (1 : Int32) ls (by decide) (by decide) hl
        · skip
          have zo_0 : (0 : Int32).toInt = 0 := by decide
          have zo_0 : (0 : Int32).toInt = 0 := by decide
          exact hx_retv hx hb hr hlk hW ⟨⟨(0 : Int32), jw88_x_71, (0 : Int32), f_4, fjw88_x_71, f_2, (by first | omega | (refine ⟨?_, ?_⟩ <;> omega))⟩, hT, hM⟩ dX10_looks_108
    refine lv_aload_n hx hb dX10_looks_49 rfl (lv_at hl 0 rfl) ?_
    refine hx_getn hx hb hts hC_10 hown hW hT (gx.S hM) tt_10 47 (by decide) rfl kw_1190 ⟨rfl, rfl, rfl⟩ dX10_looks_50 (fun q_269 fq_269 gq_269 => ?_)
    refine lv_iload_n hx hb dX10_looks_53 rfl (lv_at hl 1 rfl) ?_
    refine hx_iald hx hb hW hT gq_269 tt_82 rfl ⟨by omega, by omega⟩ dX10_looks_54 (fun x_270 ex_270 lx_270 ux_270 => ?_)
    refine lv_iconst (v := -1) hx hb dX10_looks_55 (by decide) ?_
    refine hb_icmp_eq (zx := x_270.toInt) (zy := (-1)) (tgt := 88) hx hb rfl (by decide) dX10_looks_56 (by decide) (fun c_271 => ?_) (fun c_271 => ?_)
    · skip
      exact join88 jw49_x_71 _ _ hL1 hl1 (by omega) (by omega) (by omega) ls hW hT hM fjw49_x_71 f_2 f_4 f_6 f_8  (lv_sub hl [0, 1, 2, 3] rfl)
    · skip
      refine lv_aload_n hx hb dX10_looks_59 rfl (lv_at hl 0 rfl) ?_
      refine hk_getr hx hb hts hC_10 hown hW (gx.S hM) tt_10 47 (by decide) rfl kw_1190 ⟨rfl, rfl, rfl⟩ fq_269 dX10_looks_60 ?_
      refine lv_iload_n hx hb dX10_looks_63 rfl (lv_at hl 1 rfl) ?_
      refine hx_iald hx hb hW hT gq_269 tt_82 rfl ⟨by omega, by omega⟩ dX10_looks_64 (fun x_272 ex_272 lx_272 ux_272 => ?_)
      obtain rfl : x_270 = x_272 := ex_270.trans ex_272.symm
      refine lv_iload_n hx hb dX10_looks_65 rfl (lv_at hl 2 rfl) ?_
      refine hb_icmp_gt (zx := x_270.toInt) (zy := i2.toInt) (tgt := 88) hx hb rfl rfl dX10_looks_66 (by decide) (fun c_273 => ?_) (fun c_273 => ?_)
      · skip
        exact join88 jw49_x_71 _ _ hL1 hl1 (by omega) (by omega) (by omega) ls hW hT hM fjw49_x_71 f_2 f_4 f_6 f_8  (lv_sub hl [0, 1, 2, 3] rfl)
      · skip
        refine lv_aload_n hx hb dX10_looks_69 rfl (lv_at hl 0 rfl) ?_
        refine lv_aload_n hx hb dX10_looks_70 rfl (lv_at hl 0 rfl) ?_
        refine hx_getn hx hb hts hC_10 hown hW hT (gx.S hM) tt_10 51 (by decide) rfl kw_1194 ⟨rfl, rfl, rfl⟩ dX10_looks_71 (fun q_274 fq_274 gq_274 => ?_)
        refine lv_iload_n hx hb dX10_looks_74 rfl (lv_at hl 1 rfl) ?_
        refine hx_iald hx hb hW hT gq_274 tt_86 rfl ⟨by omega, by omega⟩ dX10_looks_75 (fun x_275 ex_275 lx_275 ux_275 => ?_)
        refine lv_iconst (v := 5) hx hb dX10_looks_76 (by decide) ?_
        have jn_85 : ∀ (xj_276 : Int32) (ls : Array Slot), 2 ≤ xj_276.toInt → xj_276.toInt ≤ 3 → lv_has ls 9 [(0, .ref x), (1, .int i1), (2, .int i2), (3, .int i3)] → W p l e ({ frames := 1, cells := 0, slots := 0, locals := 22 }) s m ([.ref x, .int i1, .int i2, .int i3] : List Value).toArray below meth c H locs 0 0 (MQ below (va_Qv (fun (u : List Nat × hx_h) => (∃ (rs1 : Int32) (st1 : Int32) (pd1 : Int32), u.2.2.1 x 68 = rs1 ∧ u.2.2.1 x 71 = st1 ∧ u.2.2.1 x 67 = pd1 ∧ (4 ≤ st1.toInt ∧ st1.toInt ≤ 6 → 1 ≤ rs1.toInt)) ∧ hx_T T_tb u.1 u.2 ∧ hx_S T_tb [(10, 67), (10, 68), (10, 69), (10, 70), (10, 71)] L h u.1 u.2) (hx_E T_tb (P_ty dA) (dC, dI) vwCl (hx_A L sz)) (hx_A L sz)) ([.ref x, .int i1, .int i2, .int i3] : List Value).toArray s 0 0 (hx_A L sz)) (F0 m 85 ls [.int xj_276, .ref x]) := by
          intro xj_276 ls blxj_276 buxj_276 hl
          refine hx_puti hx hb hts hC_10 hown hW hT (hx_S.rf (M := [(10, 71)])) (gx.S hM) tt_10 71 (by decide) rfl kw_1214 ⟨rfl, rfl, rfl⟩ rfl (x := xj_276) ⟨by omega, by omega⟩ rfl rfl rfl (List.mem_singleton.mpr rfl) dX10_looks_85 (fun H locs h_277 eh_277 hW hT hs => ?_)
          replace f_2 := (hs.o (gx.S hM) trivial rfl).1.trans f_2
          replace f_4 := (hs.o (gx.S hM) trivial rfl).1.trans f_4
          replace f_6 := (hs.o (gx.S hM) trivial rfl).1.trans f_6
          replace f_8 := (hs.o (gx.S hM) trivial rfl).1.trans f_8
          replace fq_269 := (hs.o (gx.S hM) trivial rfl).2.trans fq_269
          replace fq_274 := (hs.o (gx.S hM) trivial rfl).2.trans fq_274
          replace ex_270 := ex_270.trans (hs.a gq_269 rfl _).1.symm
          replace ex_275 := ex_275.trans (hs.a gq_274 rfl _).1.symm
          replace hM := hM.tr (hs.mono (by decide))
          replace gq_269 := gq_269.S hs
          replace gq_274 := gq_274.S hs
          have f_278 : h_277.2.1 x 71 = xj_276 := by rw [eh_277]; exact hx_pi_at _ _ _ _
          exact join88 xj_276 _ _ hL1 h_277 (by omega) (by omega) (by omega) ls hW hT hM f_278 f_2 f_4 f_6 f_8  (lv_sub hl [0, 1, 2, 3] rfl)
        refine hb_icmp_ne (zx := x_275.toInt) (zy := 5) (tgt := 84) hx hb rfl (by decide) dX10_looks_77 (by decide) (fun c_279 => ?_) (fun c_279 => ?_)
        · skip
          refine lv_iconst (v := 2) hx hb dX10_looks_84 (by decide) ?_
          exact jn_85 (2 : Int32) ls (by decide) (by decide) hl
        · skip
          refine lv_iconst (v := 3) hx hb dX10_looks_80 (by decide) ?_
          refine lv_goto (tgt := 85) hx hb dX10_looks_81 (by decide) ?_
          exact jn_85 (3 : Int32) ls (by decide) (by decide) hl
  refine lv_aload_n hx hb dX10_looks_20 rfl (lv_at hl 0 rfl) ?_
  refine lv_aload_n hx hb dX10_looks_21 rfl (lv_at hl 0 rfl) ?_
  refine hx_getn hx hb hts hC_10 hown hW hT (gx.S hM) tt_10 46 (by decide) rfl kw_1189 ⟨rfl, rfl, rfl⟩ dX10_looks_22 (fun q_280 fq_280 gq_280 => ?_)
  refine lv_iload_n hx hb dX10_looks_25 rfl (lv_at hl 1 rfl) ?_
  refine hx_iald hx hb hW hT gq_280 tt_81 rfl ⟨by omega, by omega⟩ dX10_looks_26 (fun x_281 ex_281 lx_281 ux_281 => ?_)
  refine lv_iconst (v := -1) hx hb dX10_looks_27 (by decide) ?_
  refine hb_icmp_eq (zx := x_281.toInt) (zy := (-1)) (tgt := 45) hx hb rfl (by decide) dX10_looks_28 (by decide) (fun c_282 => ?_) (fun c_282 => ?_)
  · skip
    refine lv_iconst (v := 0) hx hb dX10_looks_45 (by decide) ?_
    refine hx_puti hx hb hts hC_10 hown hW hT (hx_S.rf (M := [(10, 71)])) (gx.S hM) tt_10 71 (by decide) rfl kw_1214 ⟨rfl, rfl, rfl⟩ rfl (x := (0 : Int32)) (by decide) rfl rfl rfl (List.mem_singleton.mpr rfl) dX10_looks_46 (fun H locs h_283 eh_283 hW hT hs => ?_)
    replace f_2 := (hs.o (gx.S hM) trivial rfl).1.trans f_2
    replace f_4 := (hs.o (gx.S hM) trivial rfl).1.trans f_4
    replace f_6 := (hs.o (gx.S hM) trivial rfl).1.trans f_6
    replace f_8 := (hs.o (gx.S hM) trivial rfl).1.trans f_8
    replace fq_280 := (hs.o (gx.S hM) trivial rfl).2.trans fq_280
    replace ex_281 := ex_281.trans (hs.a gq_280 rfl _).1.symm
    replace hM := hM.tr (hs.mono (by decide))
    replace gq_280 := gq_280.S hs
    have f_284 : h_283.2.1 x 71 = (0 : Int32) := by rw [eh_283]; exact hx_pi_at _ _ _ _
    have zk_0 : (0 : Int32).toInt = 0 := by decide
    exact join49 (0 : Int32) _ _ L h_283 (by decide) (by decide) (by omega) ls hW hT hM f_284 f_2 f_4 f_6 f_8  (lv_sub hl [0, 1, 2, 3] rfl)
  · skip
    refine lv_aload_n hx hb dX10_looks_31 rfl (lv_at hl 0 rfl) ?_
    refine hk_getr hx hb hts hC_10 hown hW (gx.S hM) tt_10 46 (by decide) rfl kw_1189 ⟨rfl, rfl, rfl⟩ fq_280 dX10_looks_32 ?_
    refine lv_iload_n hx hb dX10_looks_35 rfl (lv_at hl 1 rfl) ?_
    refine hx_iald hx hb hW hT gq_280 tt_81 rfl ⟨by omega, by omega⟩ dX10_looks_36 (fun x_285 ex_285 lx_285 ux_285 => ?_)
    obtain rfl : x_281 = x_285 := ex_281.trans ex_285.symm
    refine lv_iload_n hx hb dX10_looks_37 rfl (lv_at hl 2 rfl) ?_
    have jn_46 : ∀ (xj_286 : Int32) (ls : Array Slot), 0 ≤ xj_286.toInt → xj_286.toInt ≤ 1 → lv_has ls 9 [(0, .ref x), (1, .int i1), (2, .int i2), (3, .int i3)] → W p l e ({ frames := 1, cells := 0, slots := 0, locals := 22 }) s m ([.ref x, .int i1, .int i2, .int i3] : List Value).toArray below meth c H locs 0 0 (MQ below (va_Qv (fun (u : List Nat × hx_h) => (∃ (rs1 : Int32) (st1 : Int32) (pd1 : Int32), u.2.2.1 x 68 = rs1 ∧ u.2.2.1 x 71 = st1 ∧ u.2.2.1 x 67 = pd1 ∧ (4 ≤ st1.toInt ∧ st1.toInt ≤ 6 → 1 ≤ rs1.toInt)) ∧ hx_T T_tb u.1 u.2 ∧ hx_S T_tb [(10, 67), (10, 68), (10, 69), (10, 70), (10, 71)] L h u.1 u.2) (hx_E T_tb (P_ty dA) (dC, dI) vwCl (hx_A L sz)) (hx_A L sz)) ([.ref x, .int i1, .int i2, .int i3] : List Value).toArray s 0 0 (hx_A L sz)) (F0 m 46 ls [.int xj_286, .ref x]) := by
      intro xj_286 ls blxj_286 buxj_286 hl
      refine hx_puti hx hb hts hC_10 hown hW hT (hx_S.rf (M := [(10, 71)])) (gx.S hM) tt_10 71 (by decide) rfl kw_1214 ⟨rfl, rfl, rfl⟩ rfl (x := xj_286) ⟨by omega, by omega⟩ rfl rfl rfl (List.mem_singleton.mpr rfl) dX10_looks_46 (fun H locs h_287 eh_287 hW hT hs => ?_)
      replace f_2 := (hs.o (gx.S hM) trivial rfl).1.trans f_2
      replace f_4 := (hs.o (gx.S hM) trivial rfl).1.trans f_4
      replace f_6 := (hs.o (gx.S hM) trivial rfl).1.trans f_6
      replace f_8 := (hs.o (gx.S hM) trivial rfl).1.trans f_8
      replace fq_280 := (hs.o (gx.S hM) trivial rfl).2.trans fq_280
      replace ex_281 := ex_281.trans (hs.a gq_280 rfl _).1.symm
      replace hM := hM.tr (hs.mono (by decide))
      replace gq_280 := gq_280.S hs
      have f_288 : h_287.2.1 x 71 = xj_286 := by rw [eh_287]; exact hx_pi_at _ _ _ _
      exact join49 xj_286 _ _ L h_287 (by omega) (by omega) (by omega) ls hW hT hM f_288 f_2 f_4 f_6 f_8  (lv_sub hl [0, 1, 2, 3] rfl)
    refine hb_icmp_gt (zx := x_281.toInt) (zy := i2.toInt) (tgt := 45) hx hb rfl rfl dX10_looks_38 (by decide) (fun c_289 => ?_) (fun c_289 => ?_)
    · skip
      refine lv_iconst (v := 0) hx hb dX10_looks_45 (by decide) ?_
      exact jn_46 (0 : Int32) ls (by decide) (by decide) hl
    · skip
      refine lv_iconst (v := 1) hx hb dX10_looks_41 (by decide) ?_
      refine lv_goto (tgt := 46) hx hb dX10_looks_42 (by decide) ?_
      exact jn_46 (1 : Int32) ls (by decide) (by decide) hl
