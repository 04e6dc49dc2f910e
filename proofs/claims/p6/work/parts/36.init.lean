def wLX9_init_0 : List Nat := [42, 183, 0, 3, 42, 17, 1, 144, 188, 8, 181, 0, 9, 42, 187, 0, 13, 89, 183, 0, 15, 181, 0, 16, 42, 187, 0, 20, 89, 2, 2, 183, 0, 22, 181, 0, 25, 42, 16, 8, 189, 0, 20, 181, 0, 29, 42, 16, 40, 189, 0, 33, 181, 0, 35, 42, 187, 0, 39, 89, 183, 0, 41, 181]
def wLX9_init_1 : List Nat := [0, 42, 42, 16, 100, 189, 0, 46, 181, 0, 48, 42, 16, 100, 189, 0, 46, 181, 0, 52, 42, 187, 0, 55, 89, 183, 0, 57, 181, 0, 58, 42, 16, 40, 188, 10, 181, 0, 62, 42, 16, 100, 188, 10, 181, 0, 66, 42, 187, 0, 69, 89, 183, 0, 71, 181, 0, 72, 42, 187, 0, 76, 89, 183]
def wLX9_init_2 : List Nat := [0, 78, 181, 0, 79, 42, 187, 0, 83, 89, 183, 0, 85, 181, 0, 86, 177]
theorem wX9_init_0 : (cX9_init.data.toList.map UInt8.toNat).drop 0 = wLX9_init_0 ++ (wLX9_init_1 ++ (wLX9_init_2 ++ ([]))) := by decide +kernel
theorem wX9_init_1 : (cX9_init.data.toList.map UInt8.toNat).drop 64 = wLX9_init_1 ++ (wLX9_init_2 ++ ([])) := hz_wn wX9_init_0 rfl
theorem wX9_init_2 : (cX9_init.data.toList.map UInt8.toNat).drop 128 = wLX9_init_2 ++ ([]) := hz_wn wX9_init_1 rfl
theorem dX9_init_0 : decode cX9_init 0 = .ok (.aload_n 0, 1) := dq_42 (hz_wg wX9_init_0 (j := 0) (n := 42) rfl)
theorem dX9_init_1 : decode cX9_init 1 = .ok (.invokespecial 3, 3) := dq_183 (hz_wg wX9_init_0 (j := 1) (n := 183) rfl) (hz_wg wX9_init_0 (j := 2) (n := 0) rfl) (hz_wg wX9_init_0 (j := 3) (n := 3) rfl) rfl
theorem dX9_init_4 : decode cX9_init 4 = .ok (.aload_n 0, 1) := dq_42 (hz_wg wX9_init_0 (j := 4) (n := 42) rfl)
theorem dX9_init_5 : decode cX9_init 5 = .ok (.sipush 400, 3) := dq_17 (hz_wg wX9_init_0 (j := 5) (n := 17) rfl) (hz_wg wX9_init_0 (j := 6) (n := 1) rfl) (hz_wg wX9_init_0 (j := 7) (n := 144) rfl) (by decide)
theorem dX9_init_8 : decode cX9_init 8 = .ok (.newarray .byte, 2) := dk_b rfl (hz_wg wX9_init_0 (j := 8) (n := 188) rfl) (hz_wg wX9_init_0 (j := 9) (n := 8) rfl) rfl rfl
theorem dX9_init_10 : decode cX9_init 10 = .ok (.putfield 9, 3) := dq_181 (hz_wg wX9_init_0 (j := 10) (n := 181) rfl) (hz_wg wX9_init_0 (j := 11) (n := 0) rfl) (hz_wg wX9_init_0 (j := 12) (n := 9) rfl) rfl
theorem dX9_init_13 : decode cX9_init 13 = .ok (.aload_n 0, 1) := dq_42 (hz_wg wX9_init_0 (j := 13) (n := 42) rfl)
theorem dX9_init_14 : decode cX9_init 14 = .ok (.new 13, 3) := dq_187 (hz_wg wX9_init_0 (j := 14) (n := 187) rfl) (hz_wg wX9_init_0 (j := 15) (n := 0) rfl) (hz_wg wX9_init_0 (j := 16) (n := 13) rfl) rfl
theorem dX9_init_17 : decode cX9_init 17 = .ok (.dup, 1) := dq_89 (hz_wg wX9_init_0 (j := 17) (n := 89) rfl)
theorem dX9_init_18 : decode cX9_init 18 = .ok (.invokespecial 15, 3) := dq_183 (hz_wg wX9_init_0 (j := 18) (n := 183) rfl) (hz_wg wX9_init_0 (j := 19) (n := 0) rfl) (hz_wg wX9_init_0 (j := 20) (n := 15) rfl) rfl
theorem dX9_init_21 : decode cX9_init 21 = .ok (.putfield 16, 3) := dq_181 (hz_wg wX9_init_0 (j := 21) (n := 181) rfl) (hz_wg wX9_init_0 (j := 22) (n := 0) rfl) (hz_wg wX9_init_0 (j := 23) (n := 16) rfl) rfl
theorem dX9_init_24 : decode cX9_init 24 = .ok (.aload_n 0, 1) := dq_42 (hz_wg wX9_init_0 (j := 24) (n := 42) rfl)
theorem dX9_init_25 : decode cX9_init 25 = .ok (.new 20, 3) := dq_187 (hz_wg wX9_init_0 (j := 25) (n := 187) rfl) (hz_wg wX9_init_0 (j := 26) (n := 0) rfl) (hz_wg wX9_init_0 (j := 27) (n := 20) rfl) rfl
theorem dX9_init_28 : decode cX9_init 28 = .ok (.dup, 1) := dq_89 (hz_wg wX9_init_0 (j := 28) (n := 89) rfl)
theorem dX9_init_29 : decode cX9_init 29 = .ok (.iconst (-1), 1) := dq_2 (hz_wg wX9_init_0 (j := 29) (n := 2) rfl)
theorem dX9_init_30 : decode cX9_init 30 = .ok (.iconst (-1), 1) := dq_2 (hz_wg wX9_init_0 (j := 30) (n := 2) rfl)
theorem dX9_init_31 : decode cX9_init 31 = .ok (.invokespecial 22, 3) := dq_183 (hz_wg wX9_init_0 (j := 31) (n := 183) rfl) (hz_wg wX9_init_0 (j := 32) (n := 0) rfl) (hz_wg wX9_init_0 (j := 33) (n := 22) rfl) rfl
theorem dX9_init_34 : decode cX9_init 34 = .ok (.putfield 25, 3) := dq_181 (hz_wg wX9_init_0 (j := 34) (n := 181) rfl) (hz_wg wX9_init_0 (j := 35) (n := 0) rfl) (hz_wg wX9_init_0 (j := 36) (n := 25) rfl) rfl
theorem dX9_init_37 : decode cX9_init 37 = .ok (.aload_n 0, 1) := dq_42 (hz_wg wX9_init_0 (j := 37) (n := 42) rfl)
theorem dX9_init_38 : decode cX9_init 38 = .ok (.bipush 8, 2) := dq_16 (hz_wg wX9_init_0 (j := 38) (n := 16) rfl) (hz_wg wX9_init_0 (j := 39) (n := 8) rfl) (by decide)
theorem dX9_init_40 : decode cX9_init 40 = .ok (.anewarray 20, 3) := dq_189 (hz_wg wX9_init_0 (j := 40) (n := 189) rfl) (hz_wg wX9_init_0 (j := 41) (n := 0) rfl) (hz_wg wX9_init_0 (j := 42) (n := 20) rfl) rfl
theorem dX9_init_43 : decode cX9_init 43 = .ok (.putfield 29, 3) := dq_181 (hz_wg wX9_init_0 (j := 43) (n := 181) rfl) (hz_wg wX9_init_0 (j := 44) (n := 0) rfl) (hz_wg wX9_init_0 (j := 45) (n := 29) rfl) rfl
theorem dX9_init_46 : decode cX9_init 46 = .ok (.aload_n 0, 1) := dq_42 (hz_wg wX9_init_0 (j := 46) (n := 42) rfl)
theorem dX9_init_47 : decode cX9_init 47 = .ok (.bipush 40, 2) := dq_16 (hz_wg wX9_init_0 (j := 47) (n := 16) rfl) (hz_wg wX9_init_0 (j := 48) (n := 40) rfl) (by decide)
theorem dX9_init_49 : decode cX9_init 49 = .ok (.anewarray 33, 3) := dq_189 (hz_wg wX9_init_0 (j := 49) (n := 189) rfl) (hz_wg wX9_init_0 (j := 50) (n := 0) rfl) (hz_wg wX9_init_0 (j := 51) (n := 33) rfl) rfl
theorem dX9_init_52 : decode cX9_init 52 = .ok (.putfield 35, 3) := dq_181 (hz_wg wX9_init_0 (j := 52) (n := 181) rfl) (hz_wg wX9_init_0 (j := 53) (n := 0) rfl) (hz_wg wX9_init_0 (j := 54) (n := 35) rfl) rfl
theorem dX9_init_55 : decode cX9_init 55 = .ok (.aload_n 0, 1) := dq_42 (hz_wg wX9_init_0 (j := 55) (n := 42) rfl)
theorem dX9_init_56 : decode cX9_init 56 = .ok (.new 39, 3) := dq_187 (hz_wg wX9_init_0 (j := 56) (n := 187) rfl) (hz_wg wX9_init_0 (j := 57) (n := 0) rfl) (hz_wg wX9_init_0 (j := 58) (n := 39) rfl) rfl
theorem dX9_init_59 : decode cX9_init 59 = .ok (.dup, 1) := dq_89 (hz_wg wX9_init_0 (j := 59) (n := 89) rfl)
theorem dX9_init_60 : decode cX9_init 60 = .ok (.invokespecial 41, 3) := dq_183 (hz_wg wX9_init_0 (j := 60) (n := 183) rfl) (hz_wg wX9_init_0 (j := 61) (n := 0) rfl) (hz_wg wX9_init_0 (j := 62) (n := 41) rfl) rfl
theorem dX9_init_63 : decode cX9_init 63 = .ok (.putfield 42, 3) := dq_181 (hz_wg wX9_init_0 (j := 63) (n := 181) rfl) (hz_wg wX9_init_1 (j := 0) (n := 0) rfl) (hz_wg wX9_init_1 (j := 1) (n := 42) rfl) rfl
theorem dX9_init_66 : decode cX9_init 66 = .ok (.aload_n 0, 1) := dq_42 (hz_wg wX9_init_1 (j := 2) (n := 42) rfl)
theorem dX9_init_67 : decode cX9_init 67 = .ok (.bipush 100, 2) := dq_16 (hz_wg wX9_init_1 (j := 3) (n := 16) rfl) (hz_wg wX9_init_1 (j := 4) (n := 100) rfl) (by decide)
theorem dX9_init_69 : decode cX9_init 69 = .ok (.anewarray 46, 3) := dq_189 (hz_wg wX9_init_1 (j := 5) (n := 189) rfl) (hz_wg wX9_init_1 (j := 6) (n := 0) rfl) (hz_wg wX9_init_1 (j := 7) (n := 46) rfl) rfl
theorem dX9_init_72 : decode cX9_init 72 = .ok (.putfield 48, 3) := dq_181 (hz_wg wX9_init_1 (j := 8) (n := 181) rfl) (hz_wg wX9_init_1 (j := 9) (n := 0) rfl) (hz_wg wX9_init_1 (j := 10) (n := 48) rfl) rfl
theorem dX9_init_75 : decode cX9_init 75 = .ok (.aload_n 0, 1) := dq_42 (hz_wg wX9_init_1 (j := 11) (n := 42) rfl)
theorem dX9_init_76 : decode cX9_init 76 = .ok (.bipush 100, 2) := dq_16 (hz_wg wX9_init_1 (j := 12) (n := 16) rfl) (hz_wg wX9_init_1 (j := 13) (n := 100) rfl) (by decide)
theorem dX9_init_78 : decode cX9_init 78 = .ok (.anewarray 46, 3) := dq_189 (hz_wg wX9_init_1 (j := 14) (n := 189) rfl) (hz_wg wX9_init_1 (j := 15) (n := 0) rfl) (hz_wg wX9_init_1 (j := 16) (n := 46) rfl) rfl
theorem dX9_init_81 : decode cX9_init 81 = .ok (.putfield 52, 3) := dq_181 (hz_wg wX9_init_1 (j := 17) (n := 181) rfl) (hz_wg wX9_init_1 (j := 18) (n := 0) rfl) (hz_wg wX9_init_1 (j := 19) (n := 52) rfl) rfl
theorem dX9_init_84 : decode cX9_init 84 = .ok (.aload_n 0, 1) := dq_42 (hz_wg wX9_init_1 (j := 20) (n := 42) rfl)
theorem dX9_init_85 : decode cX9_init 85 = .ok (.new 55, 3) := dq_187 (hz_wg wX9_init_1 (j := 21) (n := 187) rfl) (hz_wg wX9_init_1 (j := 22) (n := 0) rfl) (hz_wg wX9_init_1 (j := 23) (n := 55) rfl) rfl
theorem dX9_init_88 : decode cX9_init 88 = .ok (.dup, 1) := dq_89 (hz_wg wX9_init_1 (j := 24) (n := 89) rfl)
theorem dX9_init_89 : decode cX9_init 89 = .ok (.invokespecial 57, 3) := dq_183 (hz_wg wX9_init_1 (j := 25) (n := 183) rfl) (hz_wg wX9_init_1 (j := 26) (n := 0) rfl) (hz_wg wX9_init_1 (j := 27) (n := 57) rfl) rfl
theorem dX9_init_92 : decode cX9_init 92 = .ok (.putfield 58, 3) := dq_181 (hz_wg wX9_init_1 (j := 28) (n := 181) rfl) (hz_wg wX9_init_1 (j := 29) (n := 0) rfl) (hz_wg wX9_init_1 (j := 30) (n := 58) rfl) rfl
theorem dX9_init_95 : decode cX9_init 95 = .ok (.aload_n 0, 1) := dq_42 (hz_wg wX9_init_1 (j := 31) (n := 42) rfl)
theorem dX9_init_96 : decode cX9_init 96 = .ok (.bipush 40, 2) := dq_16 (hz_wg wX9_init_1 (j := 32) (n := 16) rfl) (hz_wg wX9_init_1 (j := 33) (n := 40) rfl) (by decide)
theorem dX9_init_98 : decode cX9_init 98 = .ok (.newarray .int, 2) := dk_b rfl (hz_wg wX9_init_1 (j := 34) (n := 188) rfl) (hz_wg wX9_init_1 (j := 35) (n := 10) rfl) rfl rfl
theorem dX9_init_100 : decode cX9_init 100 = .ok (.putfield 62, 3) := dq_181 (hz_wg wX9_init_1 (j := 36) (n := 181) rfl) (hz_wg wX9_init_1 (j := 37) (n := 0) rfl) (hz_wg wX9_init_1 (j := 38) (n := 62) rfl) rfl
theorem dX9_init_103 : decode cX9_init 103 = .ok (.aload_n 0, 1) := dq_42 (hz_wg wX9_init_1 (j := 39) (n := 42) rfl)
theorem dX9_init_104 : decode cX9_init 104 = .ok (.bipush 100, 2) := dq_16 (hz_wg wX9_init_1 (j := 40) (n := 16) rfl) (hz_wg wX9_init_1 (j := 41) (n := 100) rfl) (by decide)
theorem dX9_init_106 : decode cX9_init 106 = .ok (.newarray .int, 2) := dk_b rfl (hz_wg wX9_init_1 (j := 42) (n := 188) rfl) (hz_wg wX9_init_1 (j := 43) (n := 10) rfl) rfl rfl
theorem dX9_init_108 : decode cX9_init 108 = .ok (.putfield 66, 3) := dq_181 (hz_wg wX9_init_1 (j := 44) (n := 181) rfl) (hz_wg wX9_init_1 (j := 45) (n := 0) rfl) (hz_wg wX9_init_1 (j := 46) (n := 66) rfl) rfl
theorem dX9_init_111 : decode cX9_init 111 = .ok (.aload_n 0, 1) := dq_42 (hz_wg wX9_init_1 (j := 47) (n := 42) rfl)
theorem dX9_init_112 : decode cX9_init 112 = .ok (.new 69, 3) := dq_187 (hz_wg wX9_init_1 (j := 48) (n := 187) rfl) (hz_wg wX9_init_1 (j := 49) (n := 0) rfl) (hz_wg wX9_init_1 (j := 50) (n := 69) rfl) rfl
theorem dX9_init_115 : decode cX9_init 115 = .ok (.dup, 1) := dq_89 (hz_wg wX9_init_1 (j := 51) (n := 89) rfl)
theorem dX9_init_116 : decode cX9_init 116 = .ok (.invokespecial 71, 3) := dq_183 (hz_wg wX9_init_1 (j := 52) (n := 183) rfl) (hz_wg wX9_init_1 (j := 53) (n := 0) rfl) (hz_wg wX9_init_1 (j := 54) (n := 71) rfl) rfl
theorem dX9_init_119 : decode cX9_init 119 = .ok (.putfield 72, 3) := dq_181 (hz_wg wX9_init_1 (j := 55) (n := 181) rfl) (hz_wg wX9_init_1 (j := 56) (n := 0) rfl) (hz_wg wX9_init_1 (j := 57) (n := 72) rfl) rfl
theorem dX9_init_122 : decode cX9_init 122 = .ok (.aload_n 0, 1) := dq_42 (hz_wg wX9_init_1 (j := 58) (n := 42) rfl)
theorem dX9_init_123 : decode cX9_init 123 = .ok (.new 76, 3) := dq_187 (hz_wg wX9_init_1 (j := 59) (n := 187) rfl) (hz_wg wX9_init_1 (j := 60) (n := 0) rfl) (hz_wg wX9_init_1 (j := 61) (n := 76) rfl) rfl
theorem dX9_init_126 : decode cX9_init 126 = .ok (.dup, 1) := dq_89 (hz_wg wX9_init_1 (j := 62) (n := 89) rfl)
theorem dX9_init_127 : decode cX9_init 127 = .ok (.invokespecial 78, 3) := dq_183 (hz_wg wX9_init_1 (j := 63) (n := 183) rfl) (hz_wg wX9_init_2 (j := 0) (n := 0) rfl) (hz_wg wX9_init_2 (j := 1) (n := 78) rfl) rfl
theorem dX9_init_130 : decode cX9_init 130 = .ok (.putfield 79, 3) := dq_181 (hz_wg wX9_init_2 (j := 2) (n := 181) rfl) (hz_wg wX9_init_2 (j := 3) (n := 0) rfl) (hz_wg wX9_init_2 (j := 4) (n := 79) rfl) rfl
theorem dX9_init_133 : decode cX9_init 133 = .ok (.aload_n 0, 1) := dq_42 (hz_wg wX9_init_2 (j := 5) (n := 42) rfl)
theorem dX9_init_134 : decode cX9_init 134 = .ok (.new 83, 3) := dq_187 (hz_wg wX9_init_2 (j := 6) (n := 187) rfl) (hz_wg wX9_init_2 (j := 7) (n := 0) rfl) (hz_wg wX9_init_2 (j := 8) (n := 83) rfl) rfl
theorem dX9_init_137 : decode cX9_init 137 = .ok (.dup, 1) := dq_89 (hz_wg wX9_init_2 (j := 9) (n := 89) rfl)
theorem dX9_init_138 : decode cX9_init 138 = .ok (.invokespecial 85, 3) := dq_183 (hz_wg wX9_init_2 (j := 10) (n := 183) rfl) (hz_wg wX9_init_2 (j := 11) (n := 0) rfl) (hz_wg wX9_init_2 (j := 12) (n := 85) rfl) rfl
theorem dX9_init_141 : decode cX9_init 141 = .ok (.putfield 86, 3) := dq_181 (hz_wg wX9_init_2 (j := 13) (n := 181) rfl) (hz_wg wX9_init_2 (j := 14) (n := 0) rfl) (hz_wg wX9_init_2 (j := 15) (n := 86) rfl) rfl
theorem dX9_init_144 : decode cX9_init 144 = .ok (.return_, 1) := dq_177 (hz_wg wX9_init_2 (j := 16) (n := 177) rfl)