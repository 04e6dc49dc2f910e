def wLX9_init_0 : List Nat := [42, 183, 0, 3, 42, 17, 1, 144, 188, 8, 181, 0, 9, 42, 187, 0, 13, 89, 183, 0, 15, 181, 0, 16, 42, 187, 0, 20, 89, 2, 2, 183, 0, 22, 181, 0, 25, 42, 16, 8, 189, 0, 20, 181, 0, 29, 42, 16, 40, 189, 0, 33, 181, 0, 35, 42, 187, 0, 39, 89, 183, 0, 41, 181]
def wLX9_init_1 : List Nat := [0, 42, 42, 16, 100, 189, 0, 46, 181, 0, 48, 42, 16, 100, 189, 0, 46, 181, 0, 52, 42, 187, 0, 55, 89, 183, 0, 57, 181, 0, 58, 42, 16, 40, 188, 10, 181, 0, 62, 42, 16, 100, 188, 10, 181, 0, 66, 42, 187, 0, 69, 89, 183, 0, 71, 181, 0, 72, 42, 187, 0, 76, 89, 183]
def wLX9_init_2 : List Nat := [0, 78, 181, 0, 79, 42, 187, 0, 83, 89, 183, 0, 85, 181, 0, 86, 177]
theorem wX9_init_0 : (cX9_init.data.toList.map UInt8.toNat).drop 0 = wLX9_init_0 ++ (wLX9_init_1 ++ (wLX9_init_2 ++ ([]))) := by decide +kernel
theorem wX9_init_1 : (cX9_init.data.toList.map UInt8.toNat).drop 64 = wLX9_init_1 ++ (wLX9_init_2 ++ ([])) := hz_wn wX9_init_0 rfl
theorem wX9_init_2 : (cX9_init.data.toList.map UInt8.toNat).drop 128 = wLX9_init_2 ++ ([]) := hz_wn wX9_init_1 rfl
theorem dX9_init_0 : decode cX9_init 0 = .ok (.aload_n 0, 1) := dq_42 (hz_wg wX9_init_0 (j := 0) (n := 42) rfl)
theorem dX9_init_1 : decode cX9_init 1 = .ok (.invokespecial 3, 3) := dq_183 (hz_wg wX9_init_0 (j := 1) (n := 183) rfl) (hz_wg wX9_init_0 (j := 2) (n := 0) rfl) (hz_wg wX9_init_0 (j := 3) (n := 3) rfl) rfl
theorem dX9_init_4 : decode cX9_init 4 = .ok (.aload_n 0, 1) := dq_42 (hz_wg wX9_init_0 (j := 4) (n := 42) rfl)
theorem dX9_init_5 : decode cX9_init 5 = .ok (.sipush 400, 3) := dq_17 (hz_wg wX9_init_0 (j := 5) (n := 17) rfl) (hz_wg wX9_init_0 (j := 6) (n := 1) rfl) (hz_wg wX9_init_0 (j := 7) (n := 144) rfl) (by decide)
theorem dX9_init_8 : decode cX9_init 8 = .ok (.newarray .byte, 2) := dk_b rfl (hz_wg wX9_init_0 (j := 8) (n := 188) rfl) (hz_wg wX9_init_0 (j := 9) (n := 8) rfl) rfl rfl
theorem dX9_init_10 : decode cX9_init 10 = .ok (.putfield 9, 3) := dq_181 (hz_wg wX9_init_0 (j := 10) (n := 181) rfl) (hz_wg wX9_init_0 (j := 11) (n := 0) rfl) (hz_wg wX9_init_0 (j := 12) (n := 9) rfl) rfl
theorem dX9_init_13 : decode cX9_init 13 = .ok (.aload_n 0, 1) := dq_42 (hz_wg wX9_init_0 (j := 13) (n := 42) rfl)
theorem dX9_init_14 : decode cX9_init 14 = .ok (.new 13, 3) := dq_187 (hz_wg wX9_init_0 (j := 14) (n := 187) rfl) (hz_wg wX9_init_0 (j := 15) (n := 0) rfl) (hz_wg wX9_init_0 (j := 16) (n := 13) rfl) rfl
theorem dX9_init_17 : decode cX9_init 17 = .ok (.dup, 1) := dq_89 (hz_wg wX9_init_0 (j := 17) (n := 89) rfl)
theorem dX9_init_18 : decode cX9_init 18 = .ok (.invokespecial 15, 3) := dq_183 (hz_wg wX9_init_0 (j := 18) (n := 183) rfl) (hz_wg wX9_init_0 (j := 19) (n := 0) rfl) (hz_wg wX9_init_0 (j := 20) (n := 15) rfl) rfl
theorem dX9_init_21 : decode cX9_init 21 = .ok (.putfield 16, 3) := dq_181 (hz_wg wX9_init_0 (j := 21) (n := 181) rfl) (hz_wg wX9_init_0 (j := 22) (n := 0) rfl) (hz_wg wX9_init_0 (j := 23) (n := 16) rfl) rfl
theorem dX9_init_24 : decode cX9_init 24 = .ok (.aload_n 0, 1) := dq_42 (hz_wg wX9_init_0 (j := 24) (n := 42) rfl)
theorem dX9_init_25 : decode cX9_init 25 = .ok (.new 20, 3) := dq_187 (hz_wg wX9_init_0 (j := 25) (n := 187) rfl) (hz_wg wX9_init_0 (j := 26) (n := 0) rfl) (hz_wg wX9_init_0 (j := 27) (n := 20) rfl) rfl
theorem dX9_init_28 : decode cX9_init 28 = .ok (.dup, 1) := dq_89 (hz_wg wX9_init_0 (j := 28) (n := 89) rfl)
theorem dX9_init_29 : decode cX9_init 29 = .ok (.iconst (-1), 1) := dq_2 (hz_wg wX9_init_0 (j := 29) (n := 2) rfl)
theorem dX9_init_30 : decode cX9_init 30 = .ok (.iconst (-1), 1) := dq_2 (hz_wg wX9_init_0 (j := 30) (n := 2) rfl)
theorem dX9_init_31 : decode cX9_init 31 = .ok (.invokespecial 22, 3) := dq_183 (hz_wg wX9_init_0 (j := 31) (n := 183) rfl) (hz_wg wX9_init_0 (j := 32) (n := 0) rfl) (hz_wg wX9_init_0 (j := 33) (n := 22) rfl) rfl
theorem dX9_init_34 : decode cX9_init 34 = .ok (.putfield 25, 3) := dq_181 (hz_wg wX9_init_0 (j := 34) (n := 181) rfl) (hz_wg wX9_init_0 (j := 35) (n := 0) rfl) (hz_wg wX9_init_0 (j := 36) (n := 25) rfl) rfl
theorem dX9_init_37 : decode cX9_init 37 = .ok (.aload_n 0, 1) := dq_42 (hz_wg wX9_init_0 (j := 37) (n := 42) rfl)
theorem dX9_init_38 : decode cX9_init 38 = .ok (.bipush 8, 2) := dq_16 (hz_wg wX9_init_0 (j := 38) (n := 16) rfl) (hz_wg wX9_init_0 (j := 39) (n := 8) rfl) (by decide)
theorem dX9_init_40 : decode cX9_init 40 = .ok (.anewarray 20, 3) := dq_189 (hz_wg wX9_init_0 (j := 40) (n := 189) rfl) (hz_wg wX9_init_0 (j := 41) (n := 0) rfl) (hz_wg wX9_init_0 (j := 42) (n := 20) rfl) rfl
theorem dX9_init_43 : decode cX9_init 43 = .ok (.putfield 29, 3) := dq_181 (hz_wg wX9_init_0 (j := 43) (n := 181) rfl) (hz_wg wX9_init_0 (j := 44) (n := 0) rfl) (hz_wg wX9_init_0 (j := 45) (n := 29) rfl) rfl
theorem dX9_init_46 : decode cX9_init 46 = .ok (.aload_n 0, 1) := dq_42 (hz_wg wX9_init_0 (j := 46) (n := 42) rfl)
theorem dX9_init_47 : decode cX9_init 47 = .ok (.bipush 40, 2) := dq_16 (hz_wg wX9_init_0 (j := 47) (n := 16) rfl) (hz_wg wX9_init_0 (j := 48) (n := 40) rfl) (by decide)
theorem dX9_init_49 : decode cX9_init 49 = .ok (.anewarray 33, 3) := dq_189 (hz_wg wX9_init_0 (j := 49) (n := 189) rfl) (hz_wg wX9_init_0 (j := 50) (n := 0) rfl) (hz_wg wX9_init_0 (j := 51) (n := 33) rfl) rfl
theorem dX9_init_52 : decode cX9_init 52 = .ok (.putfield 35, 3) := dq_181 (hz_wg wX9_init_0 (j := 52) (n := 181) rfl) (hz_wg wX9_init_0 (j := 53) (n := 0) rfl) (hz_wg wX9_init_0 (j := 54) (n := 35) rfl) rfl
theorem dX9_init_55 : decode cX9_init 55 = .ok (.aload_n 0, 1) := dq_42 (hz_wg wX9_init_0 (j := 55) (n := 42) rfl)
theorem dX9_init_56 : decode cX9_init 56 = .ok (.new 39, 3) := dq_187 (hz_wg wX9_init_0 (j := 56) (n := 187) rfl) (hz_wg wX9_init_0 (j := 57) (n := 0) rfl) (hz_wg wX9_init_0 (j := 58) (n := 39) rfl) rfl
theorem dX9_init_59 : decode cX9_init 59 = .ok (.dup, 1) := dq_89 (hz_wg wX9_init_0 (j := 59) (n := 89) rfl)
theorem dX9_init_60 : decode cX9_init 60 = .ok (.invokespecial 41, 3) := dq_183 (hz_wg wX9_init_0 (j := 60) (n := 183) rfl) (hz_wg wX9_init_0 (j := 61) (n := 0) rfl) (hz_wg wX9_init_0 (j := 62) (n := 41) rfl) rfl
theorem dX9_init_63 : decode cX9_init 63 = .ok (.putfield 42, 3) := dq_181 (hz_wg wX9_init_0 (j := 63) (n := 181) rfl) (hz_wg wX9_init_1 (j := 0) (n := 0) rfl) (hz_wg wX9_init_1 (j := 1) (n := 42) rfl) rfl
theorem dX9_init_66 : decode cX9_init 66 = .ok (.aload_n 0, 1) := dq_42 (hz_wg wX9_init_1 (j := 2) (n := 42) rfl)
theorem dX9_init_67 : decode cX9_init 67 = .ok (.bipush 100, 2) := dq_16 (hz_wg wX9_init_1 (j := 3) (n := 16) rfl) (hz_wg wX9_init_1 (j := 4) (n := 100) rfl) (by decide)
theorem dX9_init_69 : decode cX9_init 69 = .ok (.anewarray 46, 3) := dq_189 (hz_wg wX9_init_1 (j := 5) (n := 189) rfl) (hz_wg wX9_init_1 (j := 6) (n := 0) rfl) (hz_wg wX9_init_1 (j := 7) (n := 46) rfl) rfl
theorem dX9_init_72 : decode cX9_init 72 = .ok (.putfield 48, 3) := dq_181 (hz_wg wX9_init_1 (j := 8) (n := 181) rfl) (hz_wg wX9_init_1 (j := 9) (n := 0) rfl) (hz_wg wX9_init_1 (j := 10) (n := 48) rfl) rfl
theorem dX9_init_75 : decode cX9_init 75 = .ok (.aload_n 0, 1) := dq_42 (hz_wg wX9_init_1 (j := 11) (n := 42) rfl)
theorem dX9_init_76 : decode cX9_init 76 = .ok (.bipush 100, 2) := dq_16 (hz_wg wX9_init_1 (j := 12) (n := 16) rfl) (hz_wg wX9_init_1 (j := 13) (n := 100) rfl) (by decide)
theorem dX9_init_78 : decode cX9_init 78 = .ok (.anewarray 46, 3) := dq_189 (hz_wg wX9_init_1 (j := 14) (n := 189) rfl) (hz_wg wX9_init_1 (j := 15) (n := 0) rfl) (hz_wg wX9_init_1 (j := 16) (n := 46) rfl) rfl
theorem dX9_init_81 : decode cX9_init 81 = .ok (.putfield 52, 3) := dq_181 (hz_wg wX9_init_1 (j := 17) (n := 181) rfl) (hz_wg wX9_init_1 (j := 18) (n := 0) rfl) (hz_wg wX9_init_1 (j := 19) (n := 52) rfl) rfl
theorem dX9_init_84 : decode cX9_init 84 = .ok (.aload_n 0, 1) := dq_42 (hz_wg wX9_init_1 (j := 20) (n := 42) rfl)
theorem dX9_init_85 : decode cX9_init 85 = .ok (.new 55, 3) := dq_187 (hz_wg wX9_init_1 (j := 21) (n := 187) rfl) (hz_wg wX9_init_1 (j := 22) (n := 0) rfl) (hz_wg wX9_init_1 (j := 23) (n := 55) rfl) rfl
theorem dX9_init_88 : decode cX9_init 88 = .ok (.dup, 1) := dq_89 (hz_wg wX9_init_1 (j := 24) (n := 89) rfl)
theorem dX9_init_89 : decode cX9_init 89 = .ok (.invokespecial 57, 3) := dq_183 (hz_wg wX9_init_1 (j := 25) (n := 183) rfl) (hz_wg wX9_init_1 (j := 26) (n := 0) rfl) (hz_wg wX9_init_1 (j := 27) (n := 57) rfl) rfl
theorem dX9_init_92 : decode cX9_init 92 = .ok (.putfield 58, 3) := dq_181 (hz_wg wX9_init_1 (j := 28) (n := 181) rfl) (hz_wg wX9_init_1 (j := 29) (n := 0) rfl) (hz_wg wX9_init_1 (j := 30) (n := 58) rfl) rfl
theorem dX9_init_95 : decode cX9_init 95 = .ok (.aload_n 0, 1) := dq_42 (hz_wg wX9_init_1 (j := 31) (n := 42) rfl)
theorem dX9_init_96 : decode cX9_init 96 = .ok (.bipush 40, 2) := dq_16 (hz_wg wX9_init_1 (j := 32) (n := 16) rfl) (hz_wg wX9_init_1 (j := 33) (n := 40) rfl) (by decide)
theorem dX9_init_98 : decode cX9_init 98 = .ok (.newarray .int, 2) := dk_b rfl (hz_wg wX9_init_1 (j := 34) (n := 188) rfl) (hz_wg wX9_init_1 (j := 35) (n := 10) rfl) rfl rfl
theorem dX9_init_100 : decode cX9_init 100 = .ok (.putfield 62, 3) := dq_181 (hz_wg wX9_init_1 (j := 36) (n := 181) rfl) (hz_wg wX9_init_1 (j := 37) (n := 0) rfl) (hz_wg wX9_init_1 (j := 38) (n := 62) rfl) rfl
theorem dX9_init_103 : decode cX9_init 103 = .ok (.aload_n 0, 1) := dq_42 (hz_wg wX9_init_1 (j := 39) (n := 42) rfl)
theorem dX9_init_104 : decode cX9_init 104 = .ok (.bipush 100, 2) := dq_16 (hz_wg wX9_init_1 (j := 40) (n := 16) rfl) (hz_wg wX9_init_1 (j := 41) (n := 100) rfl) (by decide)
theorem dX9_init_106 : decode cX9_init 106 = .ok (.newarray .int, 2) := dk_b rfl (hz_wg wX9_init_1 (j := 42) (n := 188) rfl) (hz_wg wX9_init_1 (j := 43) (n := 10) rfl) rfl rfl
theorem dX9_init_108 : decode cX9_init 108 = .ok (.putfield 66, 3) := dq_181 (hz_wg wX9_init_1 (j := 44) (n := 181) rfl) (hz_wg wX9_init_1 (j := 45) (n := 0) rfl) (hz_wg wX9_init_1 (j := 46) (n := 66) rfl) rfl
theorem dX9_init_111 : decode cX9_init 111 = .ok (.aload_n 0, 1) := dq_42 (hz_wg wX9_init_1 (j := 47) (n := 42) rfl)
theorem dX9_init_112 : decode cX9_init 112 = .ok (.new 69, 3) := dq_187 (hz_wg wX9_init_1 (j := 48) (n := 187) rfl) (hz_wg wX9_init_1 (j := 49) (n := 0) rfl) (hz_wg wX9_init_1 (j := 50) (n := 69) rfl) rfl
theorem dX9_init_115 : decode cX9_init 115 = .ok (.dup, 1) := dq_89 (hz_wg wX9_init_1 (j := 51) (n := 89) rfl)
theorem dX9_init_116 : decode cX9_init 116 = .ok (.invokespecial 71, 3) := dq_183 (hz_wg wX9_init_1 (j := 52) (n := 183) rfl) (hz_wg wX9_init_1 (j := 53) (n := 0) rfl) (hz_wg wX9_init_1 (j := 54) (n := 71) rfl) rfl
theorem dX9_init_119 : decode cX9_init 119 = .ok (.putfield 72, 3) := dq_181 (hz_wg wX9_init_1 (j := 55) (n := 181) rfl) (hz_wg wX9_init_1 (j := 56) (n := 0) rfl) (hz_wg wX9_init_1 (j := 57) (n := 72) rfl) rfl
theorem dX9_init_122 : decode cX9_init 122 = .ok (.aload_n 0, 1) := dq_42 (hz_wg wX9_init_1 (j := 58) (n := 42) rfl)
theorem dX9_init_123 : decode cX9_init 123 = .ok (.new 76, 3) := dq_187 (hz_wg wX9_init_1 (j := 59) (n := 187) rfl) (hz_wg wX9_init_1 (j := 60) (n := 0) rfl) (hz_wg wX9_init_1 (j := 61) (n := 76) rfl) rfl
theorem dX9_init_126 : decode cX9_init 126 = .ok (.dup, 1) := dq_89 (hz_wg wX9_init_1 (j := 62) (n := 89) rfl)
theorem dX9_init_127 : decode cX9_init 127 = .ok (.invokespecial 78, 3) := dq_183 (hz_wg wX9_init_1 (j := 63) (n := 183) rfl) (hz_wg wX9_init_2 (j := 0) (n := 0) rfl) (hz_wg wX9_init_2 (j := 1) (n := 78) rfl) rfl
theorem dX9_init_130 : decode cX9_init 130 = .ok (.putfield 79, 3) := dq_181 (hz_wg wX9_init_2 (j := 2) (n := 181) rfl) (hz_wg wX9_init_2 (j := 3) (n := 0) rfl) (hz_wg wX9_init_2 (j := 4) (n := 79) rfl) rfl
theorem dX9_init_133 : decode cX9_init 133 = .ok (.aload_n 0, 1) := dq_42 (hz_wg wX9_init_2 (j := 5) (n := 42) rfl)
theorem dX9_init_134 : decode cX9_init 134 = .ok (.new 83, 3) := dq_187 (hz_wg wX9_init_2 (j := 6) (n := 187) rfl) (hz_wg wX9_init_2 (j := 7) (n := 0) rfl) (hz_wg wX9_init_2 (j := 8) (n := 83) rfl) rfl
theorem dX9_init_137 : decode cX9_init 137 = .ok (.dup, 1) := dq_89 (hz_wg wX9_init_2 (j := 9) (n := 89) rfl)
theorem dX9_init_138 : decode cX9_init 138 = .ok (.invokespecial 85, 3) := dq_183 (hz_wg wX9_init_2 (j := 10) (n := 183) rfl) (hz_wg wX9_init_2 (j := 11) (n := 0) rfl) (hz_wg wX9_init_2 (j := 12) (n := 85) rfl) rfl
theorem dX9_init_141 : decode cX9_init 141 = .ok (.putfield 86, 3) := dq_181 (hz_wg wX9_init_2 (j := 13) (n := 181) rfl) (hz_wg wX9_init_2 (j := 14) (n := 0) rfl) (hz_wg wX9_init_2 (j := 15) (n := 86) rfl) rfl
theorem dX9_init_144 : decode cX9_init 144 = .ok (.return_, 1) := dq_177 (hz_wg wX9_init_2 (j := 16) (n := 177) rfl)
set_option maxHeartbeats 4000000 in
set_option maxRecDepth 100000 in
theorem t_X9_init (l : Launch) (dC : Nat → ClassId) (dI : Nat → Nat → Nat) (dA : Nat → ClassId) (L : List Nat) (h : hx_h) (sz : Nat) (b0 : hx_z) (x : Nat) (hT : hx_T T_tb L h) (gx : hx_g L h x 125) (hz : ∀ j, h.2.1 x j = 0 ∧ h.2.2 x j = none) : Met l yX9_init (Cond.code yX9_init cX9_init 1 none :: hx_all) ({ frames := 2, cells := 43, slots := 10614, locals := 62 }) (va_Pc [.ref x] (hx_BX T_tb (P_ty dA) (dC, dI) vwCl L h sz b0)) (va_Qv (fun (u : List Nat × hx_h) => hx_T T_tb u.1 u.2 ∧ hx_S T_tb [(11, 0), (12, 0), (116, 0), (116, 1), (116, 2), (116, 3), (116, 4), (117, 1), (117, 2), (117, 3), (117, 4), (117, 5), (117, 6), (117, 7), (119, 1), (119, 2), (119, 3), (119, 4), (119, 5), (121, 2), (121, 3), (121, 4), (121, 5), (121, 6), (121, 7), (121, 8), (122, 0), (123, 0), (123, 3), (123, 5), (123, 6), (123, 7), (124, 2), (124, 3), (124, 4), (125, 0), (125, 3), (125, 4), (125, 5), (125, 7), (125, 9), (125, 10), (125, 12), (125, 14), (125, 15), (125, 16), (125, 17), (125, 18), (125, 19)] (hx_X L x) h u.1 u.2 ∧ hx_g u.1 u.2 x 9 ∧ u.2.2.1 x 2 = 0 ∧ u.2.2.1 x 6 = 0 ∧ u.2.2.1 x 8 = 0 ∧ u.2.2.1 x 11 = 0 ∧ u.2.2.1 x 13 = 0 ∧ (∃ q, u.2.2.2 x 19 = some q ∧ hx_g u.1 u.2 q 8 ∧ u.2.2.1 q 0 = 0 ∧ u.2.2.1 q 1 = 0 ∧ ∃ w, u.2.2.2 q 3 = some w ∧ hx_g u.1 u.2 w 40 ∧ ∀ j, u.2.2.1 w j = 0 ∧ u.2.2.2 w j = none) ∧ (∃ q, u.2.2.2 x 9 = some q ∧ hx_g u.1 u.2 q 1 ∧ u.2.2.1 q 0 = 0) ∧ (∃ q, u.2.2.2 x 7 = some q ∧ hx_g u.1 u.2 q 44 ∧ ∀ j, u.2.2.1 q j = 0 ∧ u.2.2.2 q j = none) ∧ (∃ q, u.2.2.2 x 10 = some q ∧ hx_g u.1 u.2 q 45 ∧ ∀ j, u.2.2.1 q j = 0 ∧ u.2.2.2 q j = none)) (hx_E T_tb (P_ty dA) (dC, dI) vwCl (hx_A L sz)) (hx_A L sz)) 43 10614 (hx_A L sz) := by
  refine hx_metX (lv := [(0, .ref x)]) (by decide +kernel) rfl (Nat.le_of_ble_eq_true rfl) rfl ?_
  intro p e s m below meth c hx hb hml hr hlk hts0 hown hin hsz hW hZ ls hl
  have hts : ∀ w ∈ hx_all, w.before _ s = true := fun w hw => hts0 w (List.mem_cons_of_mem _ hw)
  have hown : s.vm.findClass "SmallCourt" = some m.cls := hown
  have hin : meth.name = "<init>" := hin
  have hM : hx_S T_tb [(11, 0), (12, 0), (116, 0), (116, 1), (116, 2), (116, 3), (116, 4), (117, 1), (117, 2), (117, 3), (117, 4), (117, 5), (117, 6), (117, 7), (119, 1), (119, 2), (119, 3), (119, 4), (119, 5), (121, 2), (121, 3), (121, 4), (121, 5), (121, 6), (121, 7), (121, 8), (122, 0), (123, 0), (123, 3), (123, 5), (123, 6), (123, 7), (124, 2), (124, 3), (124, 4), (125, 0), (125, 3), (125, 4), (125, 5), (125, 7), (125, 9), (125, 10), (125, 12), (125, 14), (125, 15), (125, 16), (125, 17), (125, 18), (125, 19)] (hx_X L x) h L h := hx_SX_rf
  have hz : ∀ j, ([] : List Nat).contains j = false → h.2.1 x j = 0 ∧ h.2.2 x j = none := fun j _ => hz j
  refine lv_aload_n hx hb dX9_init_0 rfl (lv_at hl 0 rfl) ?_
  refine W.objInit hx hb hown (hts _ kw_116) (hts _ kw_117) (hts _ kw_118) rfl (by rw [hml]; exact hl.1) rfl dX9_init_1 (Nat.le_of_ble_eq_true rfl) (Nat.le_of_ble_eq_true rfl) ?_
  refine W.eq (g2 := F0 m 4 ls []) rfl ?_
  refine lv_aload_n hx hb dX9_init_4 rfl (lv_at hl 0 rfl) ?_
  refine lv_sipush (v := 400) hx hb dX9_init_5 (by decide) ?_
  refine hk_newa hx hb hts hW 42 tt_42 (atype := .byte) rfl kw_147 (tys := P_ty dA) (t0 := 1) rfl (fun _ => Iff.rfl) rfl (i := (400 : Int32)) (by decide) (Nat.le_of_ble_eq_true rfl) (Nat.le_of_ble_eq_true rfl) (Nat.le_of_ble_eq_true rfl) dX9_init_8 (fun q_2 H h_1 eh_1 hqq_2 hW hs gq_2 => ?_)
  have nq_q_2 : ∀ a ∈ (hx_X L x), a ≠ q_2 := fun a ha z => hqq_2 (z ▸ (hM.1 a ha).1)
  have hT : hx_T T_tb (L ++ [q_2]) h_1 := by rw [eh_1]; exact hx_T_nw hT hqq_2 tt_42 rfl
  replace hz := hx_zr [] hz hs gx trivial rfl
  replace hM := hM.tr (hs.mono (by decide))
  replace gx := gx.S hs
  refine hx_putrF hx hb hts hC_9 hown hW hT (hx_S.rf (M := [(125, 0)])) gx tt_125 0 (by decide) rfl kw_364 ⟨rfl, rfl, rfl⟩ rfl hin rfl (x := (some q_2)) ⟨fun _ z => (by cases z), fun q hq => (by cases hq; exact ⟨gq_2.1, by rw [gq_2.2]; decide⟩)⟩ rfl rfl rfl (List.mem_singleton.mpr rfl) dX9_init_10 (fun H locs h_3 eh_3 hW hT hs => ?_)
  replace hz := hx_zr [0] hz hs gx trivial rfl
  replace hM := hM.tr (hs.mono (by decide))
  replace gx := gx.S hs
  replace gq_2 := gq_2.S hs
  have f_4 : h_3.2.2 x 0 = (some q_2) := by rw [eh_3]; exact hx_pr_at _ _ _ _
  refine lv_aload_n hx hb dX9_init_13 rfl (lv_at hl 0 rfl) ?_
  refine hk_new hx hb hts hC_6 hown hW 122 tt_122 rfl (by decide) kw_119 kw_120 kw_95 (Nat.le_of_ble_eq_true rfl) (Nat.le_of_ble_eq_true rfl) dX9_init_14 (fun q_6 H h_5 eh_5 hqq_6 hW hs gq_6 => ?_)
  have nq_q_6 : ∀ a ∈ (hx_X L x), a ≠ q_6 := fun a ha z => hqq_6 (z ▸ (hM.1 a ha).1)
  have hT : hx_T T_tb ((L ++ [q_2]) ++ [q_6]) h_5 := by rw [eh_5]; exact hx_T_nw hT hqq_6 tt_122 rfl
  replace f_4 := (hs.o gx trivial rfl).2.trans f_4
  replace hz := hx_zr [0] hz hs gx trivial rfl
  replace hM := hM.tr (hs.mono (by decide))
  replace gx := gx.S hs
  replace gq_2 := gq_2.S hs
  have fz_7 : ∀ j, ([] : List Nat).contains j = false → h_5.2.1 q_6 j = 0 ∧ h_5.2.2 q_6 j = none := by rw [eh_5]; exact fun _ _ => ⟨hx_nw_i, hx_nw_r⟩
  refine lv_dup hx hb dX9_init_17 rfl ?_
  refine hx_gov (hx_runIN (As := []) (rest := [.ref q_6, .ref x]) ⟨hx, hb, hml, hown, hts⟩ hW (t_X6_init l dC dI dA ((L ++ [q_2]) ++ [q_6]) h_5 H.size q_6 hT gq_6 (fun j => fz_7 j rfl)) ⟨va_cnB 0 hts (hx_gC kw_123) rfl rfl rfl (hZ.1 _ (List.mem_of_getElem? (i := 0) rfl)) (hts _ kw_95) (by decide +kernel) ⟨Nat.le_of_ble_eq_true rfl, Nat.le_of_ble_eq_true rfl⟩, rfl, hts _ kw_122⟩ rfl hl.1 rfl (Nat.le_of_ble_eq_true rfl) dX9_init_18 ⟨Nat.le_of_ble_eq_true rfl, Nat.le_of_ble_eq_true rfl⟩) hW (fun L_8 h_9 H locs p_11 hW => ?_)
  obtain ⟨hT, hs, gNq_6⟩ := p_11
  replace hT : hx_T T_tb L_8 h_9 := hT
  replace hs : hx_S T_tb [(122, 0)] (hx_X ((L ++ [q_2]) ++ [q_6]) q_6) h_5 L_8 h_9 := hs
  have gx := hx_gX gx (gx.ne gq_6 (by decide))
  have gq_2 := hx_gX gq_2 (gq_2.ne gq_6 (by decide))
  replace f_4 := (hs.o gx trivial rfl).2.trans f_4
  replace hz := hx_zr [0] hz hs gx trivial rfl
  replace hM := hM.trX (hs.mono (by decide)) nq_q_6
  replace gx := gx.S hs
  replace gq_2 := gq_2.S hs
  have gq_6 : hx_g L_8 h_9 q_6 6 := gNq_6
  refine hx_putrF hx hb hts hC_9 hown hW hT (hx_S.rf (M := [(125, 3)])) gx tt_125 3 (by decide) rfl kw_367 ⟨rfl, rfl, rfl⟩ rfl hin rfl (x := (some q_6)) ⟨fun _ z => (by cases z), fun q hq => (by cases hq; exact ⟨gq_6.1, by rw [gq_6.2]; decide⟩)⟩ rfl rfl rfl (List.mem_singleton.mpr rfl) dX9_init_21 (fun H locs h_12 eh_12 hW hT hs => ?_)
  replace f_4 := (hs.o gx trivial rfl).2.trans f_4
  replace hz := hx_zr [0, 3] hz hs gx trivial rfl
  replace hM := hM.tr (hs.mono (by decide))
  replace gx := gx.S hs
  replace gq_2 := gq_2.S hs
  replace gq_6 := gq_6.S hs
  have f_13 : h_12.2.2 x 3 = (some q_6) := by rw [eh_12]; exact hx_pr_at _ _ _ _
  refine lv_aload_n hx hb dX9_init_24 rfl (lv_at hl 0 rfl) ?_
  refine hk_new hx hb hts hC_0 hown hW 116 tt_116 rfl (by decide) kw_148 kw_149 kw_96 (Nat.le_of_ble_eq_true rfl) (Nat.le_of_ble_eq_true rfl) dX9_init_25 (fun q_15 H h_14 eh_14 hqq_15 hW hs gq_15 => ?_)
  have nq_q_15 : ∀ a ∈ (hx_X L x), a ≠ q_15 := fun a ha z => hqq_15 (z ▸ (hM.1 a ha).1)
  have hT : hx_T T_tb (L_8 ++ [q_15]) h_14 := by rw [eh_14]; exact hx_T_nw hT hqq_15 tt_116 rfl
  replace f_4 := (hs.o gx trivial rfl).2.trans f_4
  replace f_13 := (hs.o gx trivial rfl).2.trans f_13
  replace hz := hx_zr [0, 3] hz hs gx trivial rfl
  replace hM := hM.tr (hs.mono (by decide))
  replace gx := gx.S hs
  replace gq_2 := gq_2.S hs
  replace gq_6 := gq_6.S hs
  have fz_16 : ∀ j, ([] : List Nat).contains j = false → h_14.2.1 q_15 j = 0 ∧ h_14.2.2 q_15 j = none := by rw [eh_14]; exact fun _ _ => ⟨hx_nw_i, hx_nw_r⟩
  refine lv_dup hx hb dX9_init_28 rfl ?_
  refine lv_iconst (v := -1) hx hb dX9_init_29 (by decide) ?_
  refine lv_iconst (v := -1) hx hb dX9_init_30 (by decide) ?_
  have zc_m1 : (-1 : Int32).toInt = -1 := by decide
  refine hx_gov (hx_runIX (As := [.int (-1 : Int32), .int (-1 : Int32)]) (rest := [.ref q_15, .ref x]) ⟨hx, hb, hml, hown, hts⟩ hW (t_X0_init l dC dI dA (L_8 ++ [q_15]) h_14 H.size b0 q_15 (-1 : Int32) (-1 : Int32) hT gq_15 (fun j => fz_16 j rfl) (by decide) (by decide)) hZ (cwI 2 hts (hx_gC kw_152) rfl rfl rfl (hts _ kw_96) (hts _ kw_150) (hts _ kw_151) rfl (by decide +kernel) ⟨Nat.le_of_ble_eq_true rfl, Nat.le_of_ble_eq_true rfl⟩) rfl hl.1 rfl (Nat.le_of_ble_eq_true rfl) dX9_init_31 ⟨Nat.le_of_ble_eq_true rfl, Nat.le_of_ble_eq_true rfl⟩) hW (fun L_17 h_18 H locs p_20 hW => ?_)
  obtain ⟨hT, hs, gNq_15⟩ := p_20
  replace hT : hx_T T_tb L_17 h_18 := hT
  replace hs : hx_S T_tb [(11, 0), (12, 0), (116, 0), (116, 1), (116, 2), (116, 3), (116, 4)] (hx_X (L_8 ++ [q_15]) q_15) h_14 L_17 h_18 := hs
  have gx := hx_gX gx (gx.ne gq_15 (by decide))
  have gq_2 := hx_gX gq_2 (gq_2.ne gq_15 (by decide))
  have gq_6 := hx_gX gq_6 (gq_6.ne gq_15 (by decide))
  replace f_4 := (hs.o gx trivial rfl).2.trans f_4
  replace f_13 := (hs.o gx trivial rfl).2.trans f_13
  replace hz := hx_zr [0, 3] hz hs gx trivial rfl
  replace hM := hM.trX (hs.mono (by decide)) nq_q_15
  replace gx := gx.S hs
  replace gq_2 := gq_2.S hs
  replace gq_6 := gq_6.S hs
  have gq_15 : hx_g L_17 h_18 q_15 0 := gNq_15
  refine hx_putrF hx hb hts hC_9 hown hW hT (hx_S.rf (M := [(125, 4)])) gx tt_125 4 (by decide) rfl kw_368 ⟨rfl, rfl, rfl⟩ rfl hin rfl (x := (some q_15)) ⟨fun _ z => (by cases z), fun q hq => (by cases hq; exact ⟨gq_15.1, by rw [gq_15.2]; decide⟩)⟩ rfl rfl rfl (List.mem_singleton.mpr rfl) dX9_init_34 (fun H locs h_21 eh_21 hW hT hs => ?_)
  replace f_4 := (hs.o gx trivial rfl).2.trans f_4
  replace f_13 := (hs.o gx trivial rfl).2.trans f_13
  replace hz := hx_zr [0, 3, 4] hz hs gx trivial rfl
  replace hM := hM.tr (hs.mono (by decide))
  replace gx := gx.S hs
  replace gq_2 := gq_2.S hs
  replace gq_6 := gq_6.S hs
  replace gq_15 := gq_15.S hs
  have f_22 : h_21.2.2 x 4 = (some q_15) := by rw [eh_21]; exact hx_pr_at _ _ _ _
  refine lv_aload_n hx hb dX9_init_37 rfl (lv_at hl 0 rfl) ?_
  refine lv_bipush (v := 8) hx hb dX9_init_38 (by decide) ?_
  refine hk_newqX hx hb hts hown hW 43 tt_43 kw_148 hZ.2.1.1 (tys := P_ty dA) (t0 := 4) rfl (i := (8 : Int32)) (by decide) (Nat.le_of_ble_eq_true rfl) (Nat.le_of_ble_eq_true rfl) (Nat.le_of_ble_eq_true rfl) dX9_init_40 (fun q_24 H h_23 eh_23 hqq_24 hW hs gq_24 => ?_)
  have nq_q_24 : ∀ a ∈ (hx_X L x), a ≠ q_24 := fun a ha z => hqq_24 (z ▸ (hM.1 a ha).1)
  have hT : hx_T T_tb (L_17 ++ [q_24]) h_23 := by rw [eh_23]; exact hx_T_nw hT hqq_24 tt_43 rfl
  replace f_4 := (hs.o gx trivial rfl).2.trans f_4
  replace f_13 := (hs.o gx trivial rfl).2.trans f_13
  replace f_22 := (hs.o gx trivial rfl).2.trans f_22
  replace hz := hx_zr [0, 3, 4] hz hs gx trivial rfl
  replace hM := hM.tr (hs.mono (by decide))
  replace gx := gx.S hs
  replace gq_2 := gq_2.S hs
  replace gq_6 := gq_6.S hs
  replace gq_15 := gq_15.S hs
  refine hx_putrF hx hb hts hC_9 hown hW hT (hx_S.rf (M := [(125, 5)])) gx tt_125 5 (by decide) rfl kw_369 ⟨rfl, rfl, rfl⟩ rfl hin rfl (x := (some q_24)) ⟨fun _ z => (by cases z), fun q hq => (by cases hq; exact ⟨gq_24.1, by rw [gq_24.2]; decide⟩)⟩ rfl rfl rfl (List.mem_singleton.mpr rfl) dX9_init_43 (fun H locs h_25 eh_25 hW hT hs => ?_)
  replace f_4 := (hs.o gx trivial rfl).2.trans f_4
  replace f_13 := (hs.o gx trivial rfl).2.trans f_13
  replace f_22 := (hs.o gx trivial rfl).2.trans f_22
  replace hz := hx_zr [0, 3, 4, 5] hz hs gx trivial rfl
  replace hM := hM.tr (hs.mono (by decide))
  replace gx := gx.S hs
  replace gq_2 := gq_2.S hs
  replace gq_6 := gq_6.S hs
  replace gq_15 := gq_15.S hs
  replace gq_24 := gq_24.S hs
  have f_26 : h_25.2.2 x 5 = (some q_24) := by rw [eh_25]; exact hx_pr_at _ _ _ _
  refine lv_aload_n hx hb dX9_init_46 rfl (lv_at hl 0 rfl) ?_
  refine lv_bipush (v := 40) hx hb dX9_init_47 (by decide) ?_
  refine hk_newqX hx hb hts hown hW 44 tt_44 kw_188 hZ.2.1.2.1 (tys := P_ty dA) (t0 := 5) rfl (i := (40 : Int32)) (by decide) (Nat.le_of_ble_eq_true rfl) (Nat.le_of_ble_eq_true rfl) (Nat.le_of_ble_eq_true rfl) dX9_init_49 (fun q_28 H h_27 eh_27 hqq_28 hW hs gq_28 => ?_)
  have nq_q_28 : ∀ a ∈ (hx_X L x), a ≠ q_28 := fun a ha z => hqq_28 (z ▸ (hM.1 a ha).1)
  have hT : hx_T T_tb ((L_17 ++ [q_24]) ++ [q_28]) h_27 := by rw [eh_27]; exact hx_T_nw hT hqq_28 tt_44 rfl
  replace f_4 := (hs.o gx trivial rfl).2.trans f_4
  replace f_13 := (hs.o gx trivial rfl).2.trans f_13
  replace f_22 := (hs.o gx trivial rfl).2.trans f_22
  replace f_26 := (hs.o gx trivial rfl).2.trans f_26
  replace hz := hx_zr [0, 3, 4, 5] hz hs gx trivial rfl
  replace hM := hM.tr (hs.mono (by decide))
  replace gx := gx.S hs
  replace gq_2 := gq_2.S hs
  replace gq_6 := gq_6.S hs
  replace gq_15 := gq_15.S hs
  replace gq_24 := gq_24.S hs
  have za_29 : ∀ j, h_27.2.1 q_28 j = 0 ∧ h_27.2.2 q_28 j = none := by rw [eh_27]; exact fun _ => ⟨hx_nw_i, hx_nw_r⟩
  refine hx_putrF hx hb hts hC_9 hown hW hT (hx_S.rf (M := [(125, 7)])) gx tt_125 7 (by decide) rfl kw_371 ⟨rfl, rfl, rfl⟩ rfl hin rfl (x := (some q_28)) ⟨fun _ z => (by cases z), fun q hq => (by cases hq; exact ⟨gq_28.1, by rw [gq_28.2]; decide⟩)⟩ rfl rfl rfl (List.mem_singleton.mpr rfl) dX9_init_52 (fun H locs h_30 eh_30 hW hT hs => ?_)
  replace f_4 := (hs.o gx trivial rfl).2.trans f_4
  replace f_13 := (hs.o gx trivial rfl).2.trans f_13
  replace f_22 := (hs.o gx trivial rfl).2.trans f_22
  replace f_26 := (hs.o gx trivial rfl).2.trans f_26
  replace hz := hx_zr [0, 3, 4, 5, 7] hz hs gx trivial rfl
  replace za_29 : ∀ j, h_30.2.1 q_28 j = 0 ∧ h_30.2.2 q_28 j = none := fun j => ⟨(hs.a gq_28 rfl j).1.trans (za_29 j).1, (hs.a gq_28 rfl j).2.trans (za_29 j).2⟩
  replace hM := hM.tr (hs.mono (by decide))
  replace gx := gx.S hs
  replace gq_2 := gq_2.S hs
  replace gq_6 := gq_6.S hs
  replace gq_15 := gq_15.S hs
  replace gq_24 := gq_24.S hs
  replace gq_28 := gq_28.S hs
  have f_31 : h_30.2.2 x 7 = (some q_28) := by rw [eh_30]; exact hx_pr_at _ _ _ _
  refine lv_aload_n hx hb dX9_init_55 rfl (lv_at hl 0 rfl) ?_
  refine hk_new hx hb hts hC_1 hown hW 117 tt_117 rfl (by decide) kw_190 kw_191 kw_98 (Nat.le_of_ble_eq_true rfl) (Nat.le_of_ble_eq_true rfl) dX9_init_56 (fun q_33 H h_32 eh_32 hqq_33 hW hs gq_33 => ?_)
  have nq_q_33 : ∀ a ∈ (hx_X L x), a ≠ q_33 := fun a ha z => hqq_33 (z ▸ (hM.1 a ha).1)
  have hT : hx_T T_tb (((L_17 ++ [q_24]) ++ [q_28]) ++ [q_33]) h_32 := by rw [eh_32]; exact hx_T_nw hT hqq_33 tt_117 rfl
  replace f_4 := (hs.o gx trivial rfl).2.trans f_4
  replace f_13 := (hs.o gx trivial rfl).2.trans f_13
  replace f_22 := (hs.o gx trivial rfl).2.trans f_22
  replace f_26 := (hs.o gx trivial rfl).2.trans f_26
  replace f_31 := (hs.o gx trivial rfl).2.trans f_31
  replace hz := hx_zr [0, 3, 4, 5, 7] hz hs gx trivial rfl
  replace za_29 : ∀ j, h_32.2.1 q_28 j = 0 ∧ h_32.2.2 q_28 j = none := fun j => ⟨(hs.a gq_28 rfl j).1.trans (za_29 j).1, (hs.a gq_28 rfl j).2.trans (za_29 j).2⟩
  replace hM := hM.tr (hs.mono (by decide))
  replace gx := gx.S hs
  replace gq_2 := gq_2.S hs
  replace gq_6 := gq_6.S hs
  replace gq_15 := gq_15.S hs
  replace gq_24 := gq_24.S hs
  replace gq_28 := gq_28.S hs
  have fz_34 : ∀ j, ([] : List Nat).contains j = false → h_32.2.1 q_33 j = 0 ∧ h_32.2.2 q_33 j = none := by rw [eh_32]; exact fun _ _ => ⟨hx_nw_i, hx_nw_r⟩
  refine lv_dup hx hb dX9_init_59 rfl ?_
  refine hx_gov (hx_runIN (As := []) (rest := [.ref q_33, .ref x]) ⟨hx, hb, hml, hown, hts⟩ hW (t_X1_init l dC dI dA (((L_17 ++ [q_24]) ++ [q_28]) ++ [q_33]) h_32 H.size q_33 hT gq_33 (fun j => fz_34 j rfl)) ⟨va_cnB 0 hts (hx_gC kw_194) rfl rfl rfl (hZ.1 _ (List.mem_of_getElem? (i := 2) rfl)) (hts _ kw_98) (by decide +kernel) ⟨Nat.le_of_ble_eq_true rfl, Nat.le_of_ble_eq_true rfl⟩, rfl, hts _ kw_193⟩ rfl hl.1 rfl (Nat.le_of_ble_eq_true rfl) dX9_init_60 ⟨Nat.le_of_ble_eq_true rfl, Nat.le_of_ble_eq_true rfl⟩) hW (fun L_35 h_36 H locs p_38 hW => ?_)
  obtain ⟨hT, hs, gNq_33, po_39⟩ := p_38
  replace hT : hx_T T_tb L_35 h_36 := hT
  replace hs : hx_S T_tb [(117, 1), (117, 2), (117, 3), (117, 4), (117, 5), (117, 6), (117, 7)] (hx_X (((L_17 ++ [q_24]) ++ [q_28]) ++ [q_33]) q_33) h_32 L_35 h_36 := hs
  have gx := hx_gX gx (gx.ne gq_33 (by decide))
  have gq_2 := hx_gX gq_2 (gq_2.ne gq_33 (by decide))
  have gq_6 := hx_gX gq_6 (gq_6.ne gq_33 (by decide))
  have gq_15 := hx_gX gq_15 (gq_15.ne gq_33 (by decide))
  have gq_24 := hx_gX gq_24 (gq_24.ne gq_33 (by decide))
  have gq_28 := hx_gX gq_28 (gq_28.ne gq_33 (by decide))
  replace f_4 := (hs.o gx trivial rfl).2.trans f_4
  replace f_13 := (hs.o gx trivial rfl).2.trans f_13
  replace f_22 := (hs.o gx trivial rfl).2.trans f_22
  replace f_26 := (hs.o gx trivial rfl).2.trans f_26
  replace f_31 := (hs.o gx trivial rfl).2.trans f_31
  replace hz := hx_zr [0, 3, 4, 5, 7] hz hs gx trivial rfl
  replace za_29 : ∀ j, h_36.2.1 q_28 j = 0 ∧ h_36.2.2 q_28 j = none := fun j => ⟨(hs.a gq_28 rfl j).1.trans (za_29 j).1, (hs.a gq_28 rfl j).2.trans (za_29 j).2⟩
  replace hM := hM.trX (hs.mono (by decide)) nq_q_33
  replace gx := gx.S hs
  replace gq_2 := gq_2.S hs
  replace gq_6 := gq_6.S hs
  replace gq_15 := gq_15.S hs
  replace gq_24 := gq_24.S hs
  replace gq_28 := gq_28.S hs
  have gq_33 : hx_g L_35 h_36 q_33 1 := gNq_33
  have po_39 : h_36.2.1 q_33 0 = 0 := po_39
  refine hx_putrF hx hb hts hC_9 hown hW hT (hx_S.rf (M := [(125, 9)])) gx tt_125 9 (by decide) rfl kw_373 ⟨rfl, rfl, rfl⟩ rfl hin rfl (x := (some q_33)) ⟨fun _ z => (by cases z), fun q hq => (by cases hq; exact ⟨gq_33.1, by rw [gq_33.2]; decide⟩)⟩ rfl rfl rfl (List.mem_singleton.mpr rfl) dX9_init_63 (fun H locs h_40 eh_40 hW hT hs => ?_)
  replace f_4 := (hs.o gx trivial rfl).2.trans f_4
  replace f_13 := (hs.o gx trivial rfl).2.trans f_13
  replace f_22 := (hs.o gx trivial rfl).2.trans f_22
  replace f_26 := (hs.o gx trivial rfl).2.trans f_26
  replace f_31 := (hs.o gx trivial rfl).2.trans f_31
  replace po_39 := (hs.o gq_33 trivial rfl).1.trans po_39
  replace hz := hx_zr [0, 3, 4, 5, 7, 9] hz hs gx trivial rfl
  replace za_29 : ∀ j, h_40.2.1 q_28 j = 0 ∧ h_40.2.2 q_28 j = none := fun j => ⟨(hs.a gq_28 rfl j).1.trans (za_29 j).1, (hs.a gq_28 rfl j).2.trans (za_29 j).2⟩
  replace hM := hM.tr (hs.mono (by decide))
  replace gx := gx.S hs
  replace gq_2 := gq_2.S hs
  replace gq_6 := gq_6.S hs
  replace gq_15 := gq_15.S hs
  replace gq_24 := gq_24.S hs
  replace gq_28 := gq_28.S hs
  replace gq_33 := gq_33.S hs
  have f_41 : h_40.2.2 x 9 = (some q_33) := by rw [eh_40]; exact hx_pr_at _ _ _ _
  refine lv_aload_n hx hb dX9_init_66 rfl (lv_at hl 0 rfl) ?_
  refine lv_bipush (v := 100) hx hb dX9_init_67 (by decide) ?_
  refine hk_newqX hx hb hts hown hW 45 tt_45 kw_223 hZ.2.1.2.2 (tys := P_ty dA) (t0 := 6) rfl (i := (100 : Int32)) (by decide) (Nat.le_of_ble_eq_true rfl) (Nat.le_of_ble_eq_true rfl) (Nat.le_of_ble_eq_true rfl) dX9_init_69 (fun q_43 H h_42 eh_42 hqq_43 hW hs gq_43 => ?_)
  have nq_q_43 : ∀ a ∈ (hx_X L x), a ≠ q_43 := fun a ha z => hqq_43 (z ▸ (hM.1 a ha).1)
  have hT : hx_T T_tb (L_35 ++ [q_43]) h_42 := by rw [eh_42]; exact hx_T_nw hT hqq_43 tt_45 rfl
  replace f_4 := (hs.o gx trivial rfl).2.trans f_4
  replace f_13 := (hs.o gx trivial rfl).2.trans f_13
  replace f_22 := (hs.o gx trivial rfl).2.trans f_22
  replace f_26 := (hs.o gx trivial rfl).2.trans f_26
  replace f_31 := (hs.o gx trivial rfl).2.trans f_31
  replace po_39 := (hs.o gq_33 trivial rfl).1.trans po_39
  replace f_41 := (hs.o gx trivial rfl).2.trans f_41
  replace hz := hx_zr [0, 3, 4, 5, 7, 9] hz hs gx trivial rfl
  replace za_29 : ∀ j, h_42.2.1 q_28 j = 0 ∧ h_42.2.2 q_28 j = none := fun j => ⟨(hs.a gq_28 rfl j).1.trans (za_29 j).1, (hs.a gq_28 rfl j).2.trans (za_29 j).2⟩
  replace hM := hM.tr (hs.mono (by decide))
  replace gx := gx.S hs
  replace gq_2 := gq_2.S hs
  replace gq_6 := gq_6.S hs
  replace gq_15 := gq_15.S hs
  replace gq_24 := gq_24.S hs
  replace gq_28 := gq_28.S hs
  replace gq_33 := gq_33.S hs
  have za_44 : ∀ j, h_42.2.1 q_43 j = 0 ∧ h_42.2.2 q_43 j = none := by rw [eh_42]; exact fun _ => ⟨hx_nw_i, hx_nw_r⟩
  refine hx_putrF hx hb hts hC_9 hown hW hT (hx_S.rf (M := [(125, 10)])) gx tt_125 10 (by decide) rfl kw_374 ⟨rfl, rfl, rfl⟩ rfl hin rfl (x := (some q_43)) ⟨fun _ z => (by cases z), fun q hq => (by cases hq; exact ⟨gq_43.1, by rw [gq_43.2]; decide⟩)⟩ rfl rfl rfl (List.mem_singleton.mpr rfl) dX9_init_72 (fun H locs h_45 eh_45 hW hT hs => ?_)
  replace f_4 := (hs.o gx trivial rfl).2.trans f_4
  replace f_13 := (hs.o gx trivial rfl).2.trans f_13
  replace f_22 := (hs.o gx trivial rfl).2.trans f_22
  replace f_26 := (hs.o gx trivial rfl).2.trans f_26
  replace f_31 := (hs.o gx trivial rfl).2.trans f_31
  replace po_39 := (hs.o gq_33 trivial rfl).1.trans po_39
  replace f_41 := (hs.o gx trivial rfl).2.trans f_41
  replace hz := hx_zr [0, 3, 4, 5, 7, 9, 10] hz hs gx trivial rfl
  replace za_29 : ∀ j, h_45.2.1 q_28 j = 0 ∧ h_45.2.2 q_28 j = none := fun j => ⟨(hs.a gq_28 rfl j).1.trans (za_29 j).1, (hs.a gq_28 rfl j).2.trans (za_29 j).2⟩
  replace za_44 : ∀ j, h_45.2.1 q_43 j = 0 ∧ h_45.2.2 q_43 j = none := fun j => ⟨(hs.a gq_43 rfl j).1.trans (za_44 j).1, (hs.a gq_43 rfl j).2.trans (za_44 j).2⟩
  replace hM := hM.tr (hs.mono (by decide))
  replace gx := gx.S hs
  replace gq_2 := gq_2.S hs
  replace gq_6 := gq_6.S hs
  replace gq_15 := gq_15.S hs
  replace gq_24 := gq_24.S hs
  replace gq_28 := gq_28.S hs
  replace gq_33 := gq_33.S hs
  replace gq_43 := gq_43.S hs
  have f_46 : h_45.2.2 x 10 = (some q_43) := by rw [eh_45]; exact hx_pr_at _ _ _ _
  refine lv_aload_n hx hb dX9_init_75 rfl (lv_at hl 0 rfl) ?_
  refine lv_bipush (v := 100) hx hb dX9_init_76 (by decide) ?_
  refine hk_newqX hx hb hts hown hW 46 tt_46 kw_223 hZ.2.1.2.2 (tys := P_ty dA) (t0 := 6) rfl (i := (100 : Int32)) (by decide) (Nat.le_of_ble_eq_true rfl) (Nat.le_of_ble_eq_true rfl) (Nat.le_of_ble_eq_true rfl) dX9_init_78 (fun q_48 H h_47 eh_47 hqq_48 hW hs gq_48 => ?_)
  have nq_q_48 : ∀ a ∈ (hx_X L x), a ≠ q_48 := fun a ha z => hqq_48 (z ▸ (hM.1 a ha).1)
  have hT : hx_T T_tb ((L_35 ++ [q_43]) ++ [q_48]) h_47 := by rw [eh_47]; exact hx_T_nw hT hqq_48 tt_46 rfl
  replace f_4 := (hs.o gx trivial rfl).2.trans f_4
  replace f_13 := (hs.o gx trivial rfl).2.trans f_13
  replace f_22 := (hs.o gx trivial rfl).2.trans f_22
  replace f_26 := (hs.o gx trivial rfl).2.trans f_26
  replace f_31 := (hs.o gx trivial rfl).2.trans f_31
  replace po_39 := (hs.o gq_33 trivial rfl).1.trans po_39
  replace f_41 := (hs.o gx trivial rfl).2.trans f_41
  replace f_46 := (hs.o gx trivial rfl).2.trans f_46
  replace hz := hx_zr [0, 3, 4, 5, 7, 9, 10] hz hs gx trivial rfl
  replace za_29 : ∀ j, h_47.2.1 q_28 j = 0 ∧ h_47.2.2 q_28 j = none := fun j => ⟨(hs.a gq_28 rfl j).1.trans (za_29 j).1, (hs.a gq_28 rfl j).2.trans (za_29 j).2⟩
  replace za_44 : ∀ j, h_47.2.1 q_43 j = 0 ∧ h_47.2.2 q_43 j = none := fun j => ⟨(hs.a gq_43 rfl j).1.trans (za_44 j).1, (hs.a gq_43 rfl j).2.trans (za_44 j).2⟩
  replace hM := hM.tr (hs.mono (by decide))
  replace gx := gx.S hs
  replace gq_2 := gq_2.S hs
  replace gq_6 := gq_6.S hs
  replace gq_15 := gq_15.S hs
  replace gq_24 := gq_24.S hs
  replace gq_28 := gq_28.S hs
  replace gq_33 := gq_33.S hs
  replace gq_43 := gq_43.S hs
  refine hx_putrF hx hb hts hC_9 hown hW hT (hx_S.rf (M := [(125, 12)])) gx tt_125 12 (by decide) rfl kw_376 ⟨rfl, rfl, rfl⟩ rfl hin rfl (x := (some q_48)) ⟨fun _ z => (by cases z), fun q hq => (by cases hq; exact ⟨gq_48.1, by rw [gq_48.2]; decide⟩)⟩ rfl rfl rfl (List.mem_singleton.mpr rfl) dX9_init_81 (fun H locs h_49 eh_49 hW hT hs => ?_)
  replace f_4 := (hs.o gx trivial rfl).2.trans f_4
  replace f_13 := (hs.o gx trivial rfl).2.trans f_13
  replace f_22 := (hs.o gx trivial rfl).2.trans f_22
  replace f_26 := (hs.o gx trivial rfl).2.trans f_26
  replace f_31 := (hs.o gx trivial rfl).2.trans f_31
  replace po_39 := (hs.o gq_33 trivial rfl).1.trans po_39
  replace f_41 := (hs.o gx trivial rfl).2.trans f_41
  replace f_46 := (hs.o gx trivial rfl).2.trans f_46
  replace hz := hx_zr [0, 3, 4, 5, 7, 9, 10, 12] hz hs gx trivial rfl
  replace za_29 : ∀ j, h_49.2.1 q_28 j = 0 ∧ h_49.2.2 q_28 j = none := fun j => ⟨(hs.a gq_28 rfl j).1.trans (za_29 j).1, (hs.a gq_28 rfl j).2.trans (za_29 j).2⟩
  replace za_44 : ∀ j, h_49.2.1 q_43 j = 0 ∧ h_49.2.2 q_43 j = none := fun j => ⟨(hs.a gq_43 rfl j).1.trans (za_44 j).1, (hs.a gq_43 rfl j).2.trans (za_44 j).2⟩
  replace hM := hM.tr (hs.mono (by decide))
  replace gx := gx.S hs
  replace gq_2 := gq_2.S hs
  replace gq_6 := gq_6.S hs
  replace gq_15 := gq_15.S hs
  replace gq_24 := gq_24.S hs
  replace gq_28 := gq_28.S hs
  replace gq_33 := gq_33.S hs
  replace gq_43 := gq_43.S hs
  replace gq_48 := gq_48.S hs
  have f_50 : h_49.2.2 x 12 = (some q_48) := by rw [eh_49]; exact hx_pr_at _ _ _ _
  refine lv_aload_n hx hb dX9_init_84 rfl (lv_at hl 0 rfl) ?_
  refine hk_new hx hb hts hC_3 hown hW 119 tt_119 rfl (by decide) kw_225 kw_226 kw_99 (Nat.le_of_ble_eq_true rfl) (Nat.le_of_ble_eq_true rfl) dX9_init_85 (fun q_52 H h_51 eh_51 hqq_52 hW hs gq_52 => ?_)
  have nq_q_52 : ∀ a ∈ (hx_X L x), a ≠ q_52 := fun a ha z => hqq_52 (z ▸ (hM.1 a ha).1)
  have hT : hx_T T_tb (((L_35 ++ [q_43]) ++ [q_48]) ++ [q_52]) h_51 := by rw [eh_51]; exact hx_T_nw hT hqq_52 tt_119 rfl
  replace f_4 := (hs.o gx trivial rfl).2.trans f_4
  replace f_13 := (hs.o gx trivial rfl).2.trans f_13
  replace f_22 := (hs.o gx trivial rfl).2.trans f_22
  replace f_26 := (hs.o gx trivial rfl).2.trans f_26
  replace f_31 := (hs.o gx trivial rfl).2.trans f_31
  replace po_39 := (hs.o gq_33 trivial rfl).1.trans po_39
  replace f_41 := (hs.o gx trivial rfl).2.trans f_41
  replace f_46 := (hs.o gx trivial rfl).2.trans f_46
  replace f_50 := (hs.o gx trivial rfl).2.trans f_50
  replace hz := hx_zr [0, 3, 4, 5, 7, 9, 10, 12] hz hs gx trivial rfl
  replace za_29 : ∀ j, h_51.2.1 q_28 j = 0 ∧ h_51.2.2 q_28 j = none := fun j => ⟨(hs.a gq_28 rfl j).1.trans (za_29 j).1, (hs.a gq_28 rfl j).2.trans (za_29 j).2⟩
  replace za_44 : ∀ j, h_51.2.1 q_43 j = 0 ∧ h_51.2.2 q_43 j = none := fun j => ⟨(hs.a gq_43 rfl j).1.trans (za_44 j).1, (hs.a gq_43 rfl j).2.trans (za_44 j).2⟩
  replace hM := hM.tr (hs.mono (by decide))
  replace gx := gx.S hs
  replace gq_2 := gq_2.S hs
  replace gq_6 := gq_6.S hs
  replace gq_15 := gq_15.S hs
  replace gq_24 := gq_24.S hs
  replace gq_28 := gq_28.S hs
  replace gq_33 := gq_33.S hs
  replace gq_43 := gq_43.S hs
  replace gq_48 := gq_48.S hs
  have fz_53 : ∀ j, ([] : List Nat).contains j = false → h_51.2.1 q_52 j = 0 ∧ h_51.2.2 q_52 j = none := by rw [eh_51]; exact fun _ _ => ⟨hx_nw_i, hx_nw_r⟩
  refine lv_dup hx hb dX9_init_88 rfl ?_
  refine hx_gov (hx_runIN (As := []) (rest := [.ref q_52, .ref x]) ⟨hx, hb, hml, hown, hts⟩ hW (t_X3_init l dC dI dA (((L_35 ++ [q_43]) ++ [q_48]) ++ [q_52]) h_51 H.size q_52 hT gq_52 (fun j => fz_53 j rfl)) ⟨va_cnB 0 hts (hx_gC kw_229) rfl rfl rfl (hZ.1 _ (List.mem_of_getElem? (i := 3) rfl)) (hts _ kw_99) (by decide +kernel) ⟨Nat.le_of_ble_eq_true rfl, Nat.le_of_ble_eq_true rfl⟩, rfl, hts _ kw_228⟩ rfl hl.1 rfl (Nat.le_of_ble_eq_true rfl) dX9_init_89 ⟨Nat.le_of_ble_eq_true rfl, Nat.le_of_ble_eq_true rfl⟩) hW (fun L_54 h_55 H locs p_57 hW => ?_)
  obtain ⟨hT, hs, gNq_52⟩ := p_57
  replace hT : hx_T T_tb L_54 h_55 := hT
  replace hs : hx_S T_tb [(119, 1), (119, 2), (119, 3), (119, 4), (119, 5)] (hx_X (((L_35 ++ [q_43]) ++ [q_48]) ++ [q_52]) q_52) h_51 L_54 h_55 := hs
  have gx := hx_gX gx (gx.ne gq_52 (by decide))
  have gq_2 := hx_gX gq_2 (gq_2.ne gq_52 (by decide))
  have gq_6 := hx_gX gq_6 (gq_6.ne gq_52 (by decide))
  have gq_15 := hx_gX gq_15 (gq_15.ne gq_52 (by decide))
  have gq_24 := hx_gX gq_24 (gq_24.ne gq_52 (by decide))
  have gq_28 := hx_gX gq_28 (gq_28.ne gq_52 (by decide))
  have gq_33 := hx_gX gq_33 (gq_33.ne gq_52 (by decide))
  have gq_43 := hx_gX gq_43 (gq_43.ne gq_52 (by decide))
  have gq_48 := hx_gX gq_48 (gq_48.ne gq_52 (by decide))
  replace f_4 := (hs.o gx trivial rfl).2.trans f_4
  replace f_13 := (hs.o gx trivial rfl).2.trans f_13
  replace f_22 := (hs.o gx trivial rfl).2.trans f_22
  replace f_26 := (hs.o gx trivial rfl).2.trans f_26
  replace f_31 := (hs.o gx trivial rfl).2.trans f_31
  replace po_39 := (hs.o gq_33 trivial rfl).1.trans po_39
  replace f_41 := (hs.o gx trivial rfl).2.trans f_41
  replace f_46 := (hs.o gx trivial rfl).2.trans f_46
  replace f_50 := (hs.o gx trivial rfl).2.trans f_50
  replace hz := hx_zr [0, 3, 4, 5, 7, 9, 10, 12] hz hs gx trivial rfl
  replace za_29 : ∀ j, h_55.2.1 q_28 j = 0 ∧ h_55.2.2 q_28 j = none := fun j => ⟨(hs.a gq_28 rfl j).1.trans (za_29 j).1, (hs.a gq_28 rfl j).2.trans (za_29 j).2⟩
  replace za_44 : ∀ j, h_55.2.1 q_43 j = 0 ∧ h_55.2.2 q_43 j = none := fun j => ⟨(hs.a gq_43 rfl j).1.trans (za_44 j).1, (hs.a gq_43 rfl j).2.trans (za_44 j).2⟩
  replace hM := hM.trX (hs.mono (by decide)) nq_q_52
  replace gx := gx.S hs
  replace gq_2 := gq_2.S hs
  replace gq_6 := gq_6.S hs
  replace gq_15 := gq_15.S hs
  replace gq_24 := gq_24.S hs
  replace gq_28 := gq_28.S hs
  replace gq_33 := gq_33.S hs
  replace gq_43 := gq_43.S hs
  replace gq_48 := gq_48.S hs
  have gq_52 : hx_g L_54 h_55 q_52 3 := gNq_52
  refine hx_putrF hx hb hts hC_9 hown hW hT (hx_S.rf (M := [(125, 14)])) gx tt_125 14 (by decide) rfl kw_378 ⟨rfl, rfl, rfl⟩ rfl hin rfl (x := (some q_52)) ⟨fun _ z => (by cases z), fun q hq => (by cases hq; exact ⟨gq_52.1, by rw [gq_52.2]; decide⟩)⟩ rfl rfl rfl (List.mem_singleton.mpr rfl) dX9_init_92 (fun H locs h_58 eh_58 hW hT hs => ?_)
  replace f_4 := (hs.o gx trivial rfl).2.trans f_4
  replace f_13 := (hs.o gx trivial rfl).2.trans f_13
  replace f_22 := (hs.o gx trivial rfl).2.trans f_22
  replace f_26 := (hs.o gx trivial rfl).2.trans f_26
  replace f_31 := (hs.o gx trivial rfl).2.trans f_31
  replace po_39 := (hs.o gq_33 trivial rfl).1.trans po_39
  replace f_41 := (hs.o gx trivial rfl).2.trans f_41
  replace f_46 := (hs.o gx trivial rfl).2.trans f_46
  replace f_50 := (hs.o gx trivial rfl).2.trans f_50
  replace hz := hx_zr [0, 3, 4, 5, 7, 9, 10, 12, 14] hz hs gx trivial rfl
  replace za_29 : ∀ j, h_58.2.1 q_28 j = 0 ∧ h_58.2.2 q_28 j = none := fun j => ⟨(hs.a gq_28 rfl j).1.trans (za_29 j).1, (hs.a gq_28 rfl j).2.trans (za_29 j).2⟩
  replace za_44 : ∀ j, h_58.2.1 q_43 j = 0 ∧ h_58.2.2 q_43 j = none := fun j => ⟨(hs.a gq_43 rfl j).1.trans (za_44 j).1, (hs.a gq_43 rfl j).2.trans (za_44 j).2⟩
  replace hM := hM.tr (hs.mono (by decide))
  replace gx := gx.S hs
  replace gq_2 := gq_2.S hs
  replace gq_6 := gq_6.S hs
  replace gq_15 := gq_15.S hs
  replace gq_24 := gq_24.S hs
  replace gq_28 := gq_28.S hs
  replace gq_33 := gq_33.S hs
  replace gq_43 := gq_43.S hs
  replace gq_48 := gq_48.S hs
  replace gq_52 := gq_52.S hs
  have f_59 : h_58.2.2 x 14 = (some q_52) := by rw [eh_58]; exact hx_pr_at _ _ _ _
  refine lv_aload_n hx hb dX9_init_95 rfl (lv_at hl 0 rfl) ?_
  refine lv_bipush (v := 40) hx hb dX9_init_96 (by decide) ?_
  refine hk_newa hx hb hts hW 47 tt_47 (atype := .int) rfl kw_186 (tys := P_ty dA) (t0 := 0) rfl (fun _ => Iff.rfl) rfl (i := (40 : Int32)) (by decide) (Nat.le_of_ble_eq_true rfl) (Nat.le_of_ble_eq_true rfl) (Nat.le_of_ble_eq_true rfl) dX9_init_98 (fun q_61 H h_60 eh_60 hqq_61 hW hs gq_61 => ?_)
  have nq_q_61 : ∀ a ∈ (hx_X L x), a ≠ q_61 := fun a ha z => hqq_61 (z ▸ (hM.1 a ha).1)
  have hT : hx_T T_tb (L_54 ++ [q_61]) h_60 := by rw [eh_60]; exact hx_T_nw hT hqq_61 tt_47 rfl
  replace f_4 := (hs.o gx trivial rfl).2.trans f_4
  replace f_13 := (hs.o gx trivial rfl).2.trans f_13
  replace f_22 := (hs.o gx trivial rfl).2.trans f_22
  replace f_26 := (hs.o gx trivial rfl).2.trans f_26
  replace f_31 := (hs.o gx trivial rfl).2.trans f_31
  replace po_39 := (hs.o gq_33 trivial rfl).1.trans po_39
  replace f_41 := (hs.o gx trivial rfl).2.trans f_41
  replace f_46 := (hs.o gx trivial rfl).2.trans f_46
  replace f_50 := (hs.o gx trivial rfl).2.trans f_50
  replace f_59 := (hs.o gx trivial rfl).2.trans f_59
  replace hz := hx_zr [0, 3, 4, 5, 7, 9, 10, 12, 14] hz hs gx trivial rfl
  replace za_29 : ∀ j, h_60.2.1 q_28 j = 0 ∧ h_60.2.2 q_28 j = none := fun j => ⟨(hs.a gq_28 rfl j).1.trans (za_29 j).1, (hs.a gq_28 rfl j).2.trans (za_29 j).2⟩
  replace za_44 : ∀ j, h_60.2.1 q_43 j = 0 ∧ h_60.2.2 q_43 j = none := fun j => ⟨(hs.a gq_43 rfl j).1.trans (za_44 j).1, (hs.a gq_43 rfl j).2.trans (za_44 j).2⟩
  replace hM := hM.tr (hs.mono (by decide))
  replace gx := gx.S hs
  replace gq_2 := gq_2.S hs
  replace gq_6 := gq_6.S hs
  replace gq_15 := gq_15.S hs
  replace gq_24 := gq_24.S hs
  replace gq_28 := gq_28.S hs
  replace gq_33 := gq_33.S hs
  replace gq_43 := gq_43.S hs
  replace gq_48 := gq_48.S hs
  replace gq_52 := gq_52.S hs
  refine hx_putrF hx hb hts hC_9 hown hW hT (hx_S.rf (M := [(125, 15)])) gx tt_125 15 (by decide) rfl kw_379 ⟨rfl, rfl, rfl⟩ rfl hin rfl (x := (some q_61)) ⟨fun _ z => (by cases z), fun q hq => (by cases hq; exact ⟨gq_61.1, by rw [gq_61.2]; decide⟩)⟩ rfl rfl rfl (List.mem_singleton.mpr rfl) dX9_init_100 (fun H locs h_62 eh_62 hW hT hs => ?_)
  replace f_4 := (hs.o gx trivial rfl).2.trans f_4
  replace f_13 := (hs.o gx trivial rfl).2.trans f_13
  replace f_22 := (hs.o gx trivial rfl).2.trans f_22
  replace f_26 := (hs.o gx trivial rfl).2.trans f_26
  replace f_31 := (hs.o gx trivial rfl).2.trans f_31
  replace po_39 := (hs.o gq_33 trivial rfl).1.trans po_39
  replace f_41 := (hs.o gx trivial rfl).2.trans f_41
  replace f_46 := (hs.o gx trivial rfl).2.trans f_46
  replace f_50 := (hs.o gx trivial rfl).2.trans f_50
  replace f_59 := (hs.o gx trivial rfl).2.trans f_59
  replace hz := hx_zr [0, 3, 4, 5, 7, 9, 10, 12, 14, 15] hz hs gx trivial rfl
  replace za_29 : ∀ j, h_62.2.1 q_28 j = 0 ∧ h_62.2.2 q_28 j = none := fun j => ⟨(hs.a gq_28 rfl j).1.trans (za_29 j).1, (hs.a gq_28 rfl j).2.trans (za_29 j).2⟩
  replace za_44 : ∀ j, h_62.2.1 q_43 j = 0 ∧ h_62.2.2 q_43 j = none := fun j => ⟨(hs.a gq_43 rfl j).1.trans (za_44 j).1, (hs.a gq_43 rfl j).2.trans (za_44 j).2⟩
  replace hM := hM.tr (hs.mono (by decide))
  replace gx := gx.S hs
  replace gq_2 := gq_2.S hs
  replace gq_6 := gq_6.S hs
  replace gq_15 := gq_15.S hs
  replace gq_24 := gq_24.S hs
  replace gq_28 := gq_28.S hs
  replace gq_33 := gq_33.S hs
  replace gq_43 := gq_43.S hs
  replace gq_48 := gq_48.S hs
  replace gq_52 := gq_52.S hs
  replace gq_61 := gq_61.S hs
  have f_63 : h_62.2.2 x 15 = (some q_61) := by rw [eh_62]; exact hx_pr_at _ _ _ _
  refine lv_aload_n hx hb dX9_init_103 rfl (lv_at hl 0 rfl) ?_
  refine lv_bipush (v := 100) hx hb dX9_init_104 (by decide) ?_
  refine hk_newa hx hb hts hW 48 tt_48 (atype := .int) rfl kw_186 (tys := P_ty dA) (t0 := 0) rfl (fun _ => Iff.rfl) rfl (i := (100 : Int32)) (by decide) (Nat.le_of_ble_eq_true rfl) (Nat.le_of_ble_eq_true rfl) (Nat.le_of_ble_eq_true rfl) dX9_init_106 (fun q_65 H h_64 eh_64 hqq_65 hW hs gq_65 => ?_)
  have nq_q_65 : ∀ a ∈ (hx_X L x), a ≠ q_65 := fun a ha z => hqq_65 (z ▸ (hM.1 a ha).1)
  have hT : hx_T T_tb ((L_54 ++ [q_61]) ++ [q_65]) h_64 := by rw [eh_64]; exact hx_T_nw hT hqq_65 tt_48 rfl
  replace f_4 := (hs.o gx trivial rfl).2.trans f_4
  replace f_13 := (hs.o gx trivial rfl).2.trans f_13
  replace f_22 := (hs.o gx trivial rfl).2.trans f_22
  replace f_26 := (hs.o gx trivial rfl).2.trans f_26
  replace f_31 := (hs.o gx trivial rfl).2.trans f_31
  replace po_39 := (hs.o gq_33 trivial rfl).1.trans po_39
  replace f_41 := (hs.o gx trivial rfl).2.trans f_41
  replace f_46 := (hs.o gx trivial rfl).2.trans f_46
  replace f_50 := (hs.o gx trivial rfl).2.trans f_50
  replace f_59 := (hs.o gx trivial rfl).2.trans f_59
  replace f_63 := (hs.o gx trivial rfl).2.trans f_63
  replace hz := hx_zr [0, 3, 4, 5, 7, 9, 10, 12, 14, 15] hz hs gx trivial rfl
  replace za_29 : ∀ j, h_64.2.1 q_28 j = 0 ∧ h_64.2.2 q_28 j = none := fun j => ⟨(hs.a gq_28 rfl j).1.trans (za_29 j).1, (hs.a gq_28 rfl j).2.trans (za_29 j).2⟩
  replace za_44 : ∀ j, h_64.2.1 q_43 j = 0 ∧ h_64.2.2 q_43 j = none := fun j => ⟨(hs.a gq_43 rfl j).1.trans (za_44 j).1, (hs.a gq_43 rfl j).2.trans (za_44 j).2⟩
  replace hM := hM.tr (hs.mono (by decide))
  replace gx := gx.S hs
  replace gq_2 := gq_2.S hs
  replace gq_6 := gq_6.S hs
  replace gq_15 := gq_15.S hs
  replace gq_24 := gq_24.S hs
  replace gq_28 := gq_28.S hs
  replace gq_33 := gq_33.S hs
  replace gq_43 := gq_43.S hs
  replace gq_48 := gq_48.S hs
  replace gq_52 := gq_52.S hs
  replace gq_61 := gq_61.S hs
  refine hx_putrF hx hb hts hC_9 hown hW hT (hx_S.rf (M := [(125, 16)])) gx tt_125 16 (by decide) rfl kw_380 ⟨rfl, rfl, rfl⟩ rfl hin rfl (x := (some q_65)) ⟨fun _ z => (by cases z), fun q hq => (by cases hq; exact ⟨gq_65.1, by rw [gq_65.2]; decide⟩)⟩ rfl rfl rfl (List.mem_singleton.mpr rfl) dX9_init_108 (fun H locs h_66 eh_66 hW hT hs => ?_)
  replace f_4 := (hs.o gx trivial rfl).2.trans f_4
  replace f_13 := (hs.o gx trivial rfl).2.trans f_13
  replace f_22 := (hs.o gx trivial rfl).2.trans f_22
  replace f_26 := (hs.o gx trivial rfl).2.trans f_26
  replace f_31 := (hs.o gx trivial rfl).2.trans f_31
  replace po_39 := (hs.o gq_33 trivial rfl).1.trans po_39
  replace f_41 := (hs.o gx trivial rfl).2.trans f_41
  replace f_46 := (hs.o gx trivial rfl).2.trans f_46
  replace f_50 := (hs.o gx trivial rfl).2.trans f_50
  replace f_59 := (hs.o gx trivial rfl).2.trans f_59
  replace f_63 := (hs.o gx trivial rfl).2.trans f_63
  replace hz := hx_zr [0, 3, 4, 5, 7, 9, 10, 12, 14, 15, 16] hz hs gx trivial rfl
  replace za_29 : ∀ j, h_66.2.1 q_28 j = 0 ∧ h_66.2.2 q_28 j = none := fun j => ⟨(hs.a gq_28 rfl j).1.trans (za_29 j).1, (hs.a gq_28 rfl j).2.trans (za_29 j).2⟩
  replace za_44 : ∀ j, h_66.2.1 q_43 j = 0 ∧ h_66.2.2 q_43 j = none := fun j => ⟨(hs.a gq_43 rfl j).1.trans (za_44 j).1, (hs.a gq_43 rfl j).2.trans (za_44 j).2⟩
  replace hM := hM.tr (hs.mono (by decide))
  replace gx := gx.S hs
  replace gq_2 := gq_2.S hs
  replace gq_6 := gq_6.S hs
  replace gq_15 := gq_15.S hs
  replace gq_24 := gq_24.S hs
  replace gq_28 := gq_28.S hs
  replace gq_33 := gq_33.S hs
  replace gq_43 := gq_43.S hs
  replace gq_48 := gq_48.S hs
  replace gq_52 := gq_52.S hs
  replace gq_61 := gq_61.S hs
  replace gq_65 := gq_65.S hs
  have f_67 : h_66.2.2 x 16 = (some q_65) := by rw [eh_66]; exact hx_pr_at _ _ _ _
  refine lv_aload_n hx hb dX9_init_111 rfl (lv_at hl 0 rfl) ?_
  refine hk_new hx hb hts hC_5 hown hW 121 tt_121 rfl (by decide) kw_252 kw_253 kw_100 (Nat.le_of_ble_eq_true rfl) (Nat.le_of_ble_eq_true rfl) dX9_init_112 (fun q_69 H h_68 eh_68 hqq_69 hW hs gq_69 => ?_)
  have nq_q_69 : ∀ a ∈ (hx_X L x), a ≠ q_69 := fun a ha z => hqq_69 (z ▸ (hM.1 a ha).1)
  have hT : hx_T T_tb (((L_54 ++ [q_61]) ++ [q_65]) ++ [q_69]) h_68 := by rw [eh_68]; exact hx_T_nw hT hqq_69 tt_121 rfl
  replace f_4 := (hs.o gx trivial rfl).2.trans f_4
  replace f_13 := (hs.o gx trivial rfl).2.trans f_13
  replace f_22 := (hs.o gx trivial rfl).2.trans f_22
  replace f_26 := (hs.o gx trivial rfl).2.trans f_26
  replace f_31 := (hs.o gx trivial rfl).2.trans f_31
  replace po_39 := (hs.o gq_33 trivial rfl).1.trans po_39
  replace f_41 := (hs.o gx trivial rfl).2.trans f_41
  replace f_46 := (hs.o gx trivial rfl).2.trans f_46
  replace f_50 := (hs.o gx trivial rfl).2.trans f_50
  replace f_59 := (hs.o gx trivial rfl).2.trans f_59
  replace f_63 := (hs.o gx trivial rfl).2.trans f_63
  replace f_67 := (hs.o gx trivial rfl).2.trans f_67
  replace hz := hx_zr [0, 3, 4, 5, 7, 9, 10, 12, 14, 15, 16] hz hs gx trivial rfl
  replace za_29 : ∀ j, h_68.2.1 q_28 j = 0 ∧ h_68.2.2 q_28 j = none := fun j => ⟨(hs.a gq_28 rfl j).1.trans (za_29 j).1, (hs.a gq_28 rfl j).2.trans (za_29 j).2⟩
  replace za_44 : ∀ j, h_68.2.1 q_43 j = 0 ∧ h_68.2.2 q_43 j = none := fun j => ⟨(hs.a gq_43 rfl j).1.trans (za_44 j).1, (hs.a gq_43 rfl j).2.trans (za_44 j).2⟩
  replace hM := hM.tr (hs.mono (by decide))
  replace gx := gx.S hs
  replace gq_2 := gq_2.S hs
  replace gq_6 := gq_6.S hs
  replace gq_15 := gq_15.S hs
  replace gq_24 := gq_24.S hs
  replace gq_28 := gq_28.S hs
  replace gq_33 := gq_33.S hs
  replace gq_43 := gq_43.S hs
  replace gq_48 := gq_48.S hs
  replace gq_52 := gq_52.S hs
  replace gq_61 := gq_61.S hs
  replace gq_65 := gq_65.S hs
  have fz_70 : ∀ j, ([] : List Nat).contains j = false → h_68.2.1 q_69 j = 0 ∧ h_68.2.2 q_69 j = none := by rw [eh_68]; exact fun _ _ => ⟨hx_nw_i, hx_nw_r⟩
  refine lv_dup hx hb dX9_init_115 rfl ?_
  refine hx_gov (hx_runIN (As := []) (rest := [.ref q_69, .ref x]) ⟨hx, hb, hml, hown, hts⟩ hW (t_X5_init l dC dI dA (((L_54 ++ [q_61]) ++ [q_65]) ++ [q_69]) h_68 H.size q_69 hT gq_69 (fun j => fz_70 j rfl)) ⟨va_cnB 0 hts (hx_gC kw_256) rfl rfl rfl (hZ.1 _ (List.mem_of_getElem? (i := 4) rfl)) (hts _ kw_100) (by decide +kernel) ⟨Nat.le_of_ble_eq_true rfl, Nat.le_of_ble_eq_true rfl⟩, rfl, hts _ kw_255⟩ rfl hl.1 rfl (Nat.le_of_ble_eq_true rfl) dX9_init_116 ⟨Nat.le_of_ble_eq_true rfl, Nat.le_of_ble_eq_true rfl⟩) hW (fun L_71 h_72 H locs p_74 hW => ?_)
  obtain ⟨hT, hs, gNq_69⟩ := p_74
  replace hT : hx_T T_tb L_71 h_72 := hT
  replace hs : hx_S T_tb [(121, 2), (121, 3), (121, 4), (121, 5), (121, 6), (121, 7), (121, 8)] (hx_X (((L_54 ++ [q_61]) ++ [q_65]) ++ [q_69]) q_69) h_68 L_71 h_72 := hs
  have gx := hx_gX gx (gx.ne gq_69 (by decide))
  have gq_2 := hx_gX gq_2 (gq_2.ne gq_69 (by decide))
  have gq_6 := hx_gX gq_6 (gq_6.ne gq_69 (by decide))
  have gq_15 := hx_gX gq_15 (gq_15.ne gq_69 (by decide))
  have gq_24 := hx_gX gq_24 (gq_24.ne gq_69 (by decide))
  have gq_28 := hx_gX gq_28 (gq_28.ne gq_69 (by decide))
  have gq_33 := hx_gX gq_33 (gq_33.ne gq_69 (by decide))
  have gq_43 := hx_gX gq_43 (gq_43.ne gq_69 (by decide))
  have gq_48 := hx_gX gq_48 (gq_48.ne gq_69 (by decide))
  have gq_52 := hx_gX gq_52 (gq_52.ne gq_69 (by decide))
  have gq_61 := hx_gX gq_61 (gq_61.ne gq_69 (by decide))
  have gq_65 := hx_gX gq_65 (gq_65.ne gq_69 (by decide))
  replace f_4 := (hs.o gx trivial rfl).2.trans f_4
  replace f_13 := (hs.o gx trivial rfl).2.trans f_13
  replace f_22 := (hs.o gx trivial rfl).2.trans f_22
  replace f_26 := (hs.o gx trivial rfl).2.trans f_26
  replace f_31 := (hs.o gx trivial rfl).2.trans f_31
  replace po_39 := (hs.o gq_33 trivial rfl).1.trans po_39
  replace f_41 := (hs.o gx trivial rfl).2.trans f_41
  replace f_46 := (hs.o gx trivial rfl).2.trans f_46
  replace f_50 := (hs.o gx trivial rfl).2.trans f_50
  replace f_59 := (hs.o gx trivial rfl).2.trans f_59
  replace f_63 := (hs.o gx trivial rfl).2.trans f_63
  replace f_67 := (hs.o gx trivial rfl).2.trans f_67
  replace hz := hx_zr [0, 3, 4, 5, 7, 9, 10, 12, 14, 15, 16] hz hs gx trivial rfl
  replace za_29 : ∀ j, h_72.2.1 q_28 j = 0 ∧ h_72.2.2 q_28 j = none := fun j => ⟨(hs.a gq_28 rfl j).1.trans (za_29 j).1, (hs.a gq_28 rfl j).2.trans (za_29 j).2⟩
  replace za_44 : ∀ j, h_72.2.1 q_43 j = 0 ∧ h_72.2.2 q_43 j = none := fun j => ⟨(hs.a gq_43 rfl j).1.trans (za_44 j).1, (hs.a gq_43 rfl j).2.trans (za_44 j).2⟩
  replace hM := hM.trX (hs.mono (by decide)) nq_q_69
  replace gx := gx.S hs
  replace gq_2 := gq_2.S hs
  replace gq_6 := gq_6.S hs
  replace gq_15 := gq_15.S hs
  replace gq_24 := gq_24.S hs
  replace gq_28 := gq_28.S hs
  replace gq_33 := gq_33.S hs
  replace gq_43 := gq_43.S hs
  replace gq_48 := gq_48.S hs
  replace gq_52 := gq_52.S hs
  replace gq_61 := gq_61.S hs
  replace gq_65 := gq_65.S hs
  have gq_69 : hx_g L_71 h_72 q_69 5 := gNq_69
  refine hx_putrF hx hb hts hC_9 hown hW hT (hx_S.rf (M := [(125, 17)])) gx tt_125 17 (by decide) rfl kw_381 ⟨rfl, rfl, rfl⟩ rfl hin rfl (x := (some q_69)) ⟨fun _ z => (by cases z), fun q hq => (by cases hq; exact ⟨gq_69.1, by rw [gq_69.2]; decide⟩)⟩ rfl rfl rfl (List.mem_singleton.mpr rfl) dX9_init_119 (fun H locs h_75 eh_75 hW hT hs => ?_)
  replace f_4 := (hs.o gx trivial rfl).2.trans f_4
  replace f_13 := (hs.o gx trivial rfl).2.trans f_13
  replace f_22 := (hs.o gx trivial rfl).2.trans f_22
  replace f_26 := (hs.o gx trivial rfl).2.trans f_26
  replace f_31 := (hs.o gx trivial rfl).2.trans f_31
  replace po_39 := (hs.o gq_33 trivial rfl).1.trans po_39
  replace f_41 := (hs.o gx trivial rfl).2.trans f_41
  replace f_46 := (hs.o gx trivial rfl).2.trans f_46
  replace f_50 := (hs.o gx trivial rfl).2.trans f_50
  replace f_59 := (hs.o gx trivial rfl).2.trans f_59
  replace f_63 := (hs.o gx trivial rfl).2.trans f_63
  replace f_67 := (hs.o gx trivial rfl).2.trans f_67
  replace hz := hx_zr [0, 3, 4, 5, 7, 9, 10, 12, 14, 15, 16, 17] hz hs gx trivial rfl
  replace za_29 : ∀ j, h_75.2.1 q_28 j = 0 ∧ h_75.2.2 q_28 j = none := fun j => ⟨(hs.a gq_28 rfl j).1.trans (za_29 j).1, (hs.a gq_28 rfl j).2.trans (za_29 j).2⟩
  replace za_44 : ∀ j, h_75.2.1 q_43 j = 0 ∧ h_75.2.2 q_43 j = none := fun j => ⟨(hs.a gq_43 rfl j).1.trans (za_44 j).1, (hs.a gq_43 rfl j).2.trans (za_44 j).2⟩
  replace hM := hM.tr (hs.mono (by decide))
  replace gx := gx.S hs
  replace gq_2 := gq_2.S hs
  replace gq_6 := gq_6.S hs
  replace gq_15 := gq_15.S hs
  replace gq_24 := gq_24.S hs
  replace gq_28 := gq_28.S hs
  replace gq_33 := gq_33.S hs
  replace gq_43 := gq_43.S hs
  replace gq_48 := gq_48.S hs
  replace gq_52 := gq_52.S hs
  replace gq_61 := gq_61.S hs
  replace gq_65 := gq_65.S hs
  replace gq_69 := gq_69.S hs
  have f_76 : h_75.2.2 x 17 = (some q_69) := by rw [eh_75]; exact hx_pr_at _ _ _ _
  refine lv_aload_n hx hb dX9_init_122 rfl (lv_at hl 0 rfl) ?_
  refine hk_new hx hb hts hC_7 hown hW 123 tt_123 rfl (by decide) kw_303 kw_304 kw_101 (Nat.le_of_ble_eq_true rfl) (Nat.le_of_ble_eq_true rfl) dX9_init_123 (fun q_78 H h_77 eh_77 hqq_78 hW hs gq_78 => ?_)
  have nq_q_78 : ∀ a ∈ (hx_X L x), a ≠ q_78 := fun a ha z => hqq_78 (z ▸ (hM.1 a ha).1)
  have hT : hx_T T_tb (L_71 ++ [q_78]) h_77 := by rw [eh_77]; exact hx_T_nw hT hqq_78 tt_123 rfl
  replace f_4 := (hs.o gx trivial rfl).2.trans f_4
  replace f_13 := (hs.o gx trivial rfl).2.trans f_13
  replace f_22 := (hs.o gx trivial rfl).2.trans f_22
  replace f_26 := (hs.o gx trivial rfl).2.trans f_26
  replace f_31 := (hs.o gx trivial rfl).2.trans f_31
  replace po_39 := (hs.o gq_33 trivial rfl).1.trans po_39
  replace f_41 := (hs.o gx trivial rfl).2.trans f_41
  replace f_46 := (hs.o gx trivial rfl).2.trans f_46
  replace f_50 := (hs.o gx trivial rfl).2.trans f_50
  replace f_59 := (hs.o gx trivial rfl).2.trans f_59
  replace f_63 := (hs.o gx trivial rfl).2.trans f_63
  replace f_67 := (hs.o gx trivial rfl).2.trans f_67
  replace f_76 := (hs.o gx trivial rfl).2.trans f_76
  replace hz := hx_zr [0, 3, 4, 5, 7, 9, 10, 12, 14, 15, 16, 17] hz hs gx trivial rfl
  replace za_29 : ∀ j, h_77.2.1 q_28 j = 0 ∧ h_77.2.2 q_28 j = none := fun j => ⟨(hs.a gq_28 rfl j).1.trans (za_29 j).1, (hs.a gq_28 rfl j).2.trans (za_29 j).2⟩
  replace za_44 : ∀ j, h_77.2.1 q_43 j = 0 ∧ h_77.2.2 q_43 j = none := fun j => ⟨(hs.a gq_43 rfl j).1.trans (za_44 j).1, (hs.a gq_43 rfl j).2.trans (za_44 j).2⟩
  replace hM := hM.tr (hs.mono (by decide))
  replace gx := gx.S hs
  replace gq_2 := gq_2.S hs
  replace gq_6 := gq_6.S hs
  replace gq_15 := gq_15.S hs
  replace gq_24 := gq_24.S hs
  replace gq_28 := gq_28.S hs
  replace gq_33 := gq_33.S hs
  replace gq_43 := gq_43.S hs
  replace gq_48 := gq_48.S hs
  replace gq_52 := gq_52.S hs
  replace gq_61 := gq_61.S hs
  replace gq_65 := gq_65.S hs
  replace gq_69 := gq_69.S hs
  have fz_79 : ∀ j, ([] : List Nat).contains j = false → h_77.2.1 q_78 j = 0 ∧ h_77.2.2 q_78 j = none := by rw [eh_77]; exact fun _ _ => ⟨hx_nw_i, hx_nw_r⟩
  refine lv_dup hx hb dX9_init_126 rfl ?_
  refine hx_gov (hx_runIN (As := []) (rest := [.ref q_78, .ref x]) ⟨hx, hb, hml, hown, hts⟩ hW (t_X7_init l dC dI dA (L_71 ++ [q_78]) h_77 H.size q_78 hT gq_78 (fun j => fz_79 j rfl)) ⟨va_cnB 0 hts (hx_gC kw_307) rfl rfl rfl (hZ.1 _ (List.mem_of_getElem? (i := 5) rfl)) (hts _ kw_101) (by decide +kernel) ⟨Nat.le_of_ble_eq_true rfl, Nat.le_of_ble_eq_true rfl⟩, rfl, hts _ kw_306⟩ rfl hl.1 rfl (Nat.le_of_ble_eq_true rfl) dX9_init_127 ⟨Nat.le_of_ble_eq_true rfl, Nat.le_of_ble_eq_true rfl⟩) hW (fun L_80 h_81 H locs p_83 hW => ?_)
  obtain ⟨hT, hs, gNq_78⟩ := p_83
  replace hT : hx_T T_tb L_80 h_81 := hT
  replace hs : hx_S T_tb [(123, 0), (123, 3), (123, 5), (123, 6), (123, 7)] (hx_X (L_71 ++ [q_78]) q_78) h_77 L_80 h_81 := hs
  have gx := hx_gX gx (gx.ne gq_78 (by decide))
  have gq_2 := hx_gX gq_2 (gq_2.ne gq_78 (by decide))
  have gq_6 := hx_gX gq_6 (gq_6.ne gq_78 (by decide))
  have gq_15 := hx_gX gq_15 (gq_15.ne gq_78 (by decide))
  have gq_24 := hx_gX gq_24 (gq_24.ne gq_78 (by decide))
  have gq_28 := hx_gX gq_28 (gq_28.ne gq_78 (by decide))
  have gq_33 := hx_gX gq_33 (gq_33.ne gq_78 (by decide))
  have gq_43 := hx_gX gq_43 (gq_43.ne gq_78 (by decide))
  have gq_48 := hx_gX gq_48 (gq_48.ne gq_78 (by decide))
  have gq_52 := hx_gX gq_52 (gq_52.ne gq_78 (by decide))
  have gq_61 := hx_gX gq_61 (gq_61.ne gq_78 (by decide))
  have gq_65 := hx_gX gq_65 (gq_65.ne gq_78 (by decide))
  have gq_69 := hx_gX gq_69 (gq_69.ne gq_78 (by decide))
  replace f_4 := (hs.o gx trivial rfl).2.trans f_4
  replace f_13 := (hs.o gx trivial rfl).2.trans f_13
  replace f_22 := (hs.o gx trivial rfl).2.trans f_22
  replace f_26 := (hs.o gx trivial rfl).2.trans f_26
  replace f_31 := (hs.o gx trivial rfl).2.trans f_31
  replace po_39 := (hs.o gq_33 trivial rfl).1.trans po_39
  replace f_41 := (hs.o gx trivial rfl).2.trans f_41
  replace f_46 := (hs.o gx trivial rfl).2.trans f_46
  replace f_50 := (hs.o gx trivial rfl).2.trans f_50
  replace f_59 := (hs.o gx trivial rfl).2.trans f_59
  replace f_63 := (hs.o gx trivial rfl).2.trans f_63
  replace f_67 := (hs.o gx trivial rfl).2.trans f_67
  replace f_76 := (hs.o gx trivial rfl).2.trans f_76
  replace hz := hx_zr [0, 3, 4, 5, 7, 9, 10, 12, 14, 15, 16, 17] hz hs gx trivial rfl
  replace za_29 : ∀ j, h_81.2.1 q_28 j = 0 ∧ h_81.2.2 q_28 j = none := fun j => ⟨(hs.a gq_28 rfl j).1.trans (za_29 j).1, (hs.a gq_28 rfl j).2.trans (za_29 j).2⟩
  replace za_44 : ∀ j, h_81.2.1 q_43 j = 0 ∧ h_81.2.2 q_43 j = none := fun j => ⟨(hs.a gq_43 rfl j).1.trans (za_44 j).1, (hs.a gq_43 rfl j).2.trans (za_44 j).2⟩
  replace hM := hM.trX (hs.mono (by decide)) nq_q_78
  replace gx := gx.S hs
  replace gq_2 := gq_2.S hs
  replace gq_6 := gq_6.S hs
  replace gq_15 := gq_15.S hs
  replace gq_24 := gq_24.S hs
  replace gq_28 := gq_28.S hs
  replace gq_33 := gq_33.S hs
  replace gq_43 := gq_43.S hs
  replace gq_48 := gq_48.S hs
  replace gq_52 := gq_52.S hs
  replace gq_61 := gq_61.S hs
  replace gq_65 := gq_65.S hs
  replace gq_69 := gq_69.S hs
  have gq_78 : hx_g L_80 h_81 q_78 7 := gNq_78
  refine hx_putrF hx hb hts hC_9 hown hW hT (hx_S.rf (M := [(125, 18)])) gx tt_125 18 (by decide) rfl kw_382 ⟨rfl, rfl, rfl⟩ rfl hin rfl (x := (some q_78)) ⟨fun _ z => (by cases z), fun q hq => (by cases hq; exact ⟨gq_78.1, by rw [gq_78.2]; decide⟩)⟩ rfl rfl rfl (List.mem_singleton.mpr rfl) dX9_init_130 (fun H locs h_84 eh_84 hW hT hs => ?_)
  replace f_4 := (hs.o gx trivial rfl).2.trans f_4
  replace f_13 := (hs.o gx trivial rfl).2.trans f_13
  replace f_22 := (hs.o gx trivial rfl).2.trans f_22
  replace f_26 := (hs.o gx trivial rfl).2.trans f_26
  replace f_31 := (hs.o gx trivial rfl).2.trans f_31
  replace po_39 := (hs.o gq_33 trivial rfl).1.trans po_39
  replace f_41 := (hs.o gx trivial rfl).2.trans f_41
  replace f_46 := (hs.o gx trivial rfl).2.trans f_46
  replace f_50 := (hs.o gx trivial rfl).2.trans f_50
  replace f_59 := (hs.o gx trivial rfl).2.trans f_59
  replace f_63 := (hs.o gx trivial rfl).2.trans f_63
  replace f_67 := (hs.o gx trivial rfl).2.trans f_67
  replace f_76 := (hs.o gx trivial rfl).2.trans f_76
  replace hz := hx_zr [0, 3, 4, 5, 7, 9, 10, 12, 14, 15, 16, 17, 18] hz hs gx trivial rfl
  replace za_29 : ∀ j, h_84.2.1 q_28 j = 0 ∧ h_84.2.2 q_28 j = none := fun j => ⟨(hs.a gq_28 rfl j).1.trans (za_29 j).1, (hs.a gq_28 rfl j).2.trans (za_29 j).2⟩
  replace za_44 : ∀ j, h_84.2.1 q_43 j = 0 ∧ h_84.2.2 q_43 j = none := fun j => ⟨(hs.a gq_43 rfl j).1.trans (za_44 j).1, (hs.a gq_43 rfl j).2.trans (za_44 j).2⟩
  replace hM := hM.tr (hs.mono (by decide))
  replace gx := gx.S hs
  replace gq_2 := gq_2.S hs
  replace gq_6 := gq_6.S hs
  replace gq_15 := gq_15.S hs
  replace gq_24 := gq_24.S hs
  replace gq_28 := gq_28.S hs
  replace gq_33 := gq_33.S hs
  replace gq_43 := gq_43.S hs
  replace gq_48 := gq_48.S hs
  replace gq_52 := gq_52.S hs
  replace gq_61 := gq_61.S hs
  replace gq_65 := gq_65.S hs
  replace gq_69 := gq_69.S hs
  replace gq_78 := gq_78.S hs
  have f_85 : h_84.2.2 x 18 = (some q_78) := by rw [eh_84]; exact hx_pr_at _ _ _ _
  refine lv_aload_n hx hb dX9_init_133 rfl (lv_at hl 0 rfl) ?_
  refine hk_new hx hb hts hC_8 hown hW 124 tt_124 rfl (by decide) kw_338 kw_339 kw_102 (Nat.le_of_ble_eq_true rfl) (Nat.le_of_ble_eq_true rfl) dX9_init_134 (fun q_87 H h_86 eh_86 hqq_87 hW hs gq_87 => ?_)
  have nq_q_87 : ∀ a ∈ (hx_X L x), a ≠ q_87 := fun a ha z => hqq_87 (z ▸ (hM.1 a ha).1)
  have hT : hx_T T_tb (L_80 ++ [q_87]) h_86 := by rw [eh_86]; exact hx_T_nw hT hqq_87 tt_124 rfl
  replace f_4 := (hs.o gx trivial rfl).2.trans f_4
  replace f_13 := (hs.o gx trivial rfl).2.trans f_13
  replace f_22 := (hs.o gx trivial rfl).2.trans f_22
  replace f_26 := (hs.o gx trivial rfl).2.trans f_26
  replace f_31 := (hs.o gx trivial rfl).2.trans f_31
  replace po_39 := (hs.o gq_33 trivial rfl).1.trans po_39
  replace f_41 := (hs.o gx trivial rfl).2.trans f_41
  replace f_46 := (hs.o gx trivial rfl).2.trans f_46
  replace f_50 := (hs.o gx trivial rfl).2.trans f_50
  replace f_59 := (hs.o gx trivial rfl).2.trans f_59
  replace f_63 := (hs.o gx trivial rfl).2.trans f_63
  replace f_67 := (hs.o gx trivial rfl).2.trans f_67
  replace f_76 := (hs.o gx trivial rfl).2.trans f_76
  replace f_85 := (hs.o gx trivial rfl).2.trans f_85
  replace hz := hx_zr [0, 3, 4, 5, 7, 9, 10, 12, 14, 15, 16, 17, 18] hz hs gx trivial rfl
  replace za_29 : ∀ j, h_86.2.1 q_28 j = 0 ∧ h_86.2.2 q_28 j = none := fun j => ⟨(hs.a gq_28 rfl j).1.trans (za_29 j).1, (hs.a gq_28 rfl j).2.trans (za_29 j).2⟩
  replace za_44 : ∀ j, h_86.2.1 q_43 j = 0 ∧ h_86.2.2 q_43 j = none := fun j => ⟨(hs.a gq_43 rfl j).1.trans (za_44 j).1, (hs.a gq_43 rfl j).2.trans (za_44 j).2⟩
  replace hM := hM.tr (hs.mono (by decide))
  replace gx := gx.S hs
  replace gq_2 := gq_2.S hs
  replace gq_6 := gq_6.S hs
  replace gq_15 := gq_15.S hs
  replace gq_24 := gq_24.S hs
  replace gq_28 := gq_28.S hs
  replace gq_33 := gq_33.S hs
  replace gq_43 := gq_43.S hs
  replace gq_48 := gq_48.S hs
  replace gq_52 := gq_52.S hs
  replace gq_61 := gq_61.S hs
  replace gq_65 := gq_65.S hs
  replace gq_69 := gq_69.S hs
  replace gq_78 := gq_78.S hs
  have fz_88 : ∀ j, ([] : List Nat).contains j = false → h_86.2.1 q_87 j = 0 ∧ h_86.2.2 q_87 j = none := by rw [eh_86]; exact fun _ _ => ⟨hx_nw_i, hx_nw_r⟩
  refine lv_dup hx hb dX9_init_137 rfl ?_
  refine hx_gov (hx_runINX (As := []) (rest := [.ref q_87, .ref x]) ⟨hx, hb, hml, hown, hts⟩ hW (t_X8_init l dC dI dA (L_80 ++ [q_87]) h_86 H.size b0 q_87 hT gq_87 (fun j => fz_88 j rfl)) hZ ⟨va_cnB 0 hts (hx_gC kw_342) rfl rfl rfl (hZ.1 _ (List.mem_of_getElem? (i := 6) rfl)) (hts _ kw_102) (by decide +kernel) ⟨Nat.le_of_ble_eq_true rfl, Nat.le_of_ble_eq_true rfl⟩, rfl, hts _ kw_341⟩ rfl hl.1 rfl (Nat.le_of_ble_eq_true rfl) dX9_init_138 ⟨Nat.le_of_ble_eq_true rfl, Nat.le_of_ble_eq_true rfl⟩) hW (fun L_89 h_90 H locs p_92 hW => ?_)
  obtain ⟨hT, hs, gNq_87, po_93, po_94, po_95⟩ := p_92
  replace hT : hx_T T_tb L_89 h_90 := hT
  replace hs : hx_S T_tb [(124, 2), (124, 3), (124, 4)] (hx_X (L_80 ++ [q_87]) q_87) h_86 L_89 h_90 := hs
  have gx := hx_gX gx (gx.ne gq_87 (by decide))
  have gq_2 := hx_gX gq_2 (gq_2.ne gq_87 (by decide))
  have gq_6 := hx_gX gq_6 (gq_6.ne gq_87 (by decide))
  have gq_15 := hx_gX gq_15 (gq_15.ne gq_87 (by decide))
  have gq_24 := hx_gX gq_24 (gq_24.ne gq_87 (by decide))
  have gq_28 := hx_gX gq_28 (gq_28.ne gq_87 (by decide))
  have gq_33 := hx_gX gq_33 (gq_33.ne gq_87 (by decide))
  have gq_43 := hx_gX gq_43 (gq_43.ne gq_87 (by decide))
  have gq_48 := hx_gX gq_48 (gq_48.ne gq_87 (by decide))
  have gq_52 := hx_gX gq_52 (gq_52.ne gq_87 (by decide))
  have gq_61 := hx_gX gq_61 (gq_61.ne gq_87 (by decide))
  have gq_65 := hx_gX gq_65 (gq_65.ne gq_87 (by decide))
  have gq_69 := hx_gX gq_69 (gq_69.ne gq_87 (by decide))
  have gq_78 := hx_gX gq_78 (gq_78.ne gq_87 (by decide))
  replace f_4 := (hs.o gx trivial rfl).2.trans f_4
  replace f_13 := (hs.o gx trivial rfl).2.trans f_13
  replace f_22 := (hs.o gx trivial rfl).2.trans f_22
  replace f_26 := (hs.o gx trivial rfl).2.trans f_26
  replace f_31 := (hs.o gx trivial rfl).2.trans f_31
  replace po_39 := (hs.o gq_33 trivial rfl).1.trans po_39
  replace f_41 := (hs.o gx trivial rfl).2.trans f_41
  replace f_46 := (hs.o gx trivial rfl).2.trans f_46
  replace f_50 := (hs.o gx trivial rfl).2.trans f_50
  replace f_59 := (hs.o gx trivial rfl).2.trans f_59
  replace f_63 := (hs.o gx trivial rfl).2.trans f_63
  replace f_67 := (hs.o gx trivial rfl).2.trans f_67
  replace f_76 := (hs.o gx trivial rfl).2.trans f_76
  replace f_85 := (hs.o gx trivial rfl).2.trans f_85
  replace hz := hx_zr [0, 3, 4, 5, 7, 9, 10, 12, 14, 15, 16, 17, 18] hz hs gx trivial rfl
  replace za_29 : ∀ j, h_90.2.1 q_28 j = 0 ∧ h_90.2.2 q_28 j = none := fun j => ⟨(hs.a gq_28 rfl j).1.trans (za_29 j).1, (hs.a gq_28 rfl j).2.trans (za_29 j).2⟩
  replace za_44 : ∀ j, h_90.2.1 q_43 j = 0 ∧ h_90.2.2 q_43 j = none := fun j => ⟨(hs.a gq_43 rfl j).1.trans (za_44 j).1, (hs.a gq_43 rfl j).2.trans (za_44 j).2⟩
  replace hM := hM.trX (hs.mono (by decide)) nq_q_87
  replace gx := gx.S hs
  replace gq_2 := gq_2.S hs
  replace gq_6 := gq_6.S hs
  replace gq_15 := gq_15.S hs
  replace gq_24 := gq_24.S hs
  replace gq_28 := gq_28.S hs
  replace gq_33 := gq_33.S hs
  replace gq_43 := gq_43.S hs
  replace gq_48 := gq_48.S hs
  replace gq_52 := gq_52.S hs
  replace gq_61 := gq_61.S hs
  replace gq_65 := gq_65.S hs
  replace gq_69 := gq_69.S hs
  replace gq_78 := gq_78.S hs
  have gq_87 : hx_g L_89 h_90 q_87 8 := gNq_87
  have po_93 : h_90.2.1 q_87 0 = 0 := po_93
  have po_94 : h_90.2.1 q_87 1 = 0 := po_94
  obtain ⟨q_96, fq_96, gq_96, po_95⟩ := po_95
  have fq_96 : h_90.2.2 q_87 3 = some q_96 := fq_96
  have gq_96 : hx_g L_89 h_90 q_96 40 := gq_96
  have po_95 : ∀ j, h_90.2.1 q_96 j = 0 ∧ h_90.2.2 q_96 j = none := po_95
  refine hx_putrF hx hb hts hC_9 hown hW hT (hx_S.rf (M := [(125, 19)])) gx tt_125 19 (by decide) rfl kw_383 ⟨rfl, rfl, rfl⟩ rfl hin rfl (x := (some q_87)) ⟨fun _ z => (by cases z), fun q hq => (by cases hq; exact ⟨gq_87.1, by rw [gq_87.2]; decide⟩)⟩ rfl rfl rfl (List.mem_singleton.mpr rfl) dX9_init_141 (fun H locs h_97 eh_97 hW hT hs => ?_)
  replace f_4 := (hs.o gx trivial rfl).2.trans f_4
  replace f_13 := (hs.o gx trivial rfl).2.trans f_13
  replace f_22 := (hs.o gx trivial rfl).2.trans f_22
  replace f_26 := (hs.o gx trivial rfl).2.trans f_26
  replace f_31 := (hs.o gx trivial rfl).2.trans f_31
  replace po_39 := (hs.o gq_33 trivial rfl).1.trans po_39
  replace f_41 := (hs.o gx trivial rfl).2.trans f_41
  replace f_46 := (hs.o gx trivial rfl).2.trans f_46
  replace f_50 := (hs.o gx trivial rfl).2.trans f_50
  replace f_59 := (hs.o gx trivial rfl).2.trans f_59
  replace f_63 := (hs.o gx trivial rfl).2.trans f_63
  replace f_67 := (hs.o gx trivial rfl).2.trans f_67
  replace f_76 := (hs.o gx trivial rfl).2.trans f_76
  replace f_85 := (hs.o gx trivial rfl).2.trans f_85
  replace po_93 := (hs.o gq_87 trivial rfl).1.trans po_93
  replace po_94 := (hs.o gq_87 trivial rfl).1.trans po_94
  replace fq_96 := (hs.o gq_87 trivial rfl).2.trans fq_96
  replace hz := hx_zr [0, 3, 4, 5, 7, 9, 10, 12, 14, 15, 16, 17, 18, 19] hz hs gx trivial rfl
  replace za_29 : ∀ j, h_97.2.1 q_28 j = 0 ∧ h_97.2.2 q_28 j = none := fun j => ⟨(hs.a gq_28 rfl j).1.trans (za_29 j).1, (hs.a gq_28 rfl j).2.trans (za_29 j).2⟩
  replace za_44 : ∀ j, h_97.2.1 q_43 j = 0 ∧ h_97.2.2 q_43 j = none := fun j => ⟨(hs.a gq_43 rfl j).1.trans (za_44 j).1, (hs.a gq_43 rfl j).2.trans (za_44 j).2⟩
  replace po_95 : ∀ j, h_97.2.1 q_96 j = 0 ∧ h_97.2.2 q_96 j = none := fun j => ⟨(hs.a gq_96 rfl j).1.trans (po_95 j).1, (hs.a gq_96 rfl j).2.trans (po_95 j).2⟩
  replace hM := hM.tr (hs.mono (by decide))
  replace gx := gx.S hs
  replace gq_2 := gq_2.S hs
  replace gq_6 := gq_6.S hs
  replace gq_15 := gq_15.S hs
  replace gq_24 := gq_24.S hs
  replace gq_28 := gq_28.S hs
  replace gq_33 := gq_33.S hs
  replace gq_43 := gq_43.S hs
  replace gq_48 := gq_48.S hs
  replace gq_52 := gq_52.S hs
  replace gq_61 := gq_61.S hs
  replace gq_65 := gq_65.S hs
  replace gq_69 := gq_69.S hs
  replace gq_78 := gq_78.S hs
  replace gq_87 := gq_87.S hs
  replace gq_96 := gq_96.S hs
  have f_98 : h_97.2.2 x 19 = (some q_87) := by rw [eh_97]; exact hx_pr_at _ _ _ _
  have f_99 : h_97.2.1 x 2 = 0 := (hz 2 rfl).1
  have f_100 : h_97.2.1 x 6 = 0 := (hz 6 rfl).1
  have f_101 : h_97.2.1 x 8 = 0 := (hz 8 rfl).1
  have f_102 : h_97.2.1 x 11 = 0 := (hz 11 rfl).1
  have f_103 : h_97.2.1 x 13 = 0 := (hz 13 rfl).1
  have hF : hx_F (fun k f => hx_o L_89 h_97 f (h_97.2.1 x k) (h_97.2.2 x k)) T_f9 0 := ⟨hx_or f_4 gq_2 (by decide), hx_oi (hz 1 rfl).1 (by decide), hx_oi f_99 (by decide), hx_or f_13 gq_6 (by decide), hx_or f_22 gq_15 (by decide), hx_or f_26 gq_24 (by decide), hx_oi f_100 (by decide), hx_or f_31 gq_28 (by decide), hx_oi f_101 (by decide), hx_or f_41 gq_33 (by decide), hx_or f_46 gq_43 (by decide), hx_oi f_102 (by decide), hx_or f_50 gq_48 (by decide), hx_oi f_103 (by decide), hx_or f_59 gq_52 (by decide), hx_or f_63 gq_61 (by decide), hx_or f_67 gq_65 (by decide), hx_or f_76 gq_69 (by decide), hx_or f_85 gq_78 (by decide), hx_or f_98 gq_87 (by decide), trivial⟩
  have hT := hx_T_rt hT gx tt_9 rfl (hx_F_all hF)
  have hW := hx_W_rt hW gx tt_125 tt_9 (fun _ _ => rfl)
  have hM := hx_SX_rt (x := x) (t := 9) hM
  have gq_2 := hx_rt_o (t := 9) gq_2 (gq_2.ne gx (by decide))
  have gq_6 := hx_rt_o (t := 9) gq_6 (gq_6.ne gx (by decide))
  have gq_15 := hx_rt_o (t := 9) gq_15 (gq_15.ne gx (by decide))
  have gq_24 := hx_rt_o (t := 9) gq_24 (gq_24.ne gx (by decide))
  have gq_28 := hx_rt_o (t := 9) gq_28 (gq_28.ne gx (by decide))
  have gq_33 := hx_rt_o (t := 9) gq_33 (gq_33.ne gx (by decide))
  have gq_43 := hx_rt_o (t := 9) gq_43 (gq_43.ne gx (by decide))
  have gq_48 := hx_rt_o (t := 9) gq_48 (gq_48.ne gx (by decide))
  have gq_52 := hx_rt_o (t := 9) gq_52 (gq_52.ne gx (by decide))
  have gq_61 := hx_rt_o (t := 9) gq_61 (gq_61.ne gx (by decide))
  have gq_65 := hx_rt_o (t := 9) gq_65 (gq_65.ne gx (by decide))
  have gq_69 := hx_rt_o (t := 9) gq_69 (gq_69.ne gx (by decide))
  have gq_78 := hx_rt_o (t := 9) gq_78 (gq_78.ne gx (by decide))
  have gq_87 := hx_rt_o (t := 9) gq_87 (gq_87.ne gx (by decide))
  have gq_96 := hx_rt_o (t := 9) gq_96 (gq_96.ne gx (by decide))
  have gx := hx_rt_g (t := 9) gx
  have f_4 : (hx_rt h_97 x 9).2.2 x 0 = some q_2 := f_4
  have f_13 : (hx_rt h_97 x 9).2.2 x 3 = some q_6 := f_13
  have f_22 : (hx_rt h_97 x 9).2.2 x 4 = some q_15 := f_22
  have f_26 : (hx_rt h_97 x 9).2.2 x 5 = some q_24 := f_26
  have f_31 : (hx_rt h_97 x 9).2.2 x 7 = some q_28 := f_31
  have po_39 : (hx_rt h_97 x 9).2.1 q_33 0 = (0 : Int32) := po_39
  have f_41 : (hx_rt h_97 x 9).2.2 x 9 = some q_33 := f_41
  have f_46 : (hx_rt h_97 x 9).2.2 x 10 = some q_43 := f_46
  have f_50 : (hx_rt h_97 x 9).2.2 x 12 = some q_48 := f_50
  have f_59 : (hx_rt h_97 x 9).2.2 x 14 = some q_52 := f_59
  have f_63 : (hx_rt h_97 x 9).2.2 x 15 = some q_61 := f_63
  have f_67 : (hx_rt h_97 x 9).2.2 x 16 = some q_65 := f_67
  have f_76 : (hx_rt h_97 x 9).2.2 x 17 = some q_69 := f_76
  have f_85 : (hx_rt h_97 x 9).2.2 x 18 = some q_78 := f_85
  have po_93 : (hx_rt h_97 x 9).2.1 q_87 0 = (0 : Int32) := po_93
  have po_94 : (hx_rt h_97 x 9).2.1 q_87 1 = (0 : Int32) := po_94
  have fq_96 : (hx_rt h_97 x 9).2.2 q_87 3 = some q_96 := fq_96
  have f_98 : (hx_rt h_97 x 9).2.2 x 19 = some q_87 := f_98
  have f_99 : (hx_rt h_97 x 9).2.1 x 2 = (0 : Int32) := f_99
  have f_100 : (hx_rt h_97 x 9).2.1 x 6 = (0 : Int32) := f_100
  have f_101 : (hx_rt h_97 x 9).2.1 x 8 = (0 : Int32) := f_101
  have f_102 : (hx_rt h_97 x 9).2.1 x 11 = (0 : Int32) := f_102
  have f_103 : (hx_rt h_97 x 9).2.1 x 13 = (0 : Int32) := f_103
  have za_29 : ∀ j, (hx_rt h_97 x 9).2.1 q_28 j = 0 ∧ (hx_rt h_97 x 9).2.2 q_28 j = none := za_29
  have za_44 : ∀ j, (hx_rt h_97 x 9).2.1 q_43 j = 0 ∧ (hx_rt h_97 x 9).2.2 q_43 j = none := za_44
  have po_95 : ∀ j, (hx_rt h_97 x 9).2.1 q_96 j = 0 ∧ (hx_rt h_97 x 9).2.2 q_96 j = none := po_95
  generalize eh : hx_rt h_97 x 9 = h_104 at hT hW hM gx gq_2 gq_6 gq_15 gq_24 gq_28 gq_33 gq_43 gq_48 gq_52 gq_61 gq_65 gq_69 gq_78 gq_87 gq_96 f_4 f_13 f_22 f_26 f_31 po_39 f_41 f_46 f_50 f_59 f_63 f_67 f_76 f_85 po_93 po_94 fq_96 f_98 f_99 f_100 f_101 f_102 f_103 za_29 za_44 po_95
  refine W.widen (k := 43) (n := 10614) (Nat.le_of_ble_eq_true rfl) (Nat.le_of_ble_eq_true rfl) ?_
  exact hx_retv hx hb hr hlk hW ⟨hT, hM, gx, f_99, f_100, f_101, f_102, f_103, ⟨q_87, f_98, gq_87, ⟨po_93, po_94, q_96, fq_96, gq_96, po_95⟩⟩, ⟨q_33, f_41, gq_33, po_39⟩, ⟨q_28, f_31, gq_28, za_29⟩, ⟨q_43, f_46, gq_43, za_44⟩⟩ dX9_init_144
